/-! up: the class -/
theorem tk1_one {bl : List bk_B} (h : 0 < bl.length) : bl.take 1 = [bkL bl 0] := by
  cases bl with
  | nil => exact absurd h (Nat.lt_irrefl 0)
  | cons a t => rfl
theorem bkL_one (b : bk_B) : bkL [b] 0 = b := rfl
theorem en_one {bl : List bk_B} (h : 0 < bl.length) (hw : wfE (enB bl)) : enB [bkL bl 0] = [enL (enB bl) 0] ∧ eP (enB bl) 0 = none ∧ eH (enB bl) 0 = 0 := by
  have hl : 0 < (enB bl).length := by rw [enB_len]; exact h
  have e : eP (enB bl) 0 = none := by
    cases c : eP (enB bl) 0 with
    | none => rfl
    | some p => exact absurd ((hw 0 hl).1 p c).1 (Nat.not_lt_zero p)
  exact ⟨by rw [enL_B h]; rfl, e, ((hw 0 hl).2.1 e).2⟩
theorem wf_one {bl : List bk_B} (h : 0 < bl.length) (hw : wfE (enB bl)) : wfE (enB [bkL bl 0]) := by
  obtain ⟨e1, e2, e3⟩ := en_one h hw
  have hl : 0 < (enB bl).length := by rw [enB_len]; exact h
  rw [e1]
  intro k hk
  have hk0 : k = 0 := by have q : k < 1 := hk; omega
  subst hk0
  obtain ⟨w1, w2, w3, w4⟩ := hw 0 hl
  refine ⟨fun p hp => ?_, fun _ => ⟨rfl, e3⟩, w3, w4⟩
  have q : eP (enB bl) 0 = some p := hp
  rw [e2] at q
  cases q
theorem blI.one {bl : List bk_B} {nx : Nat} (h : blI bl nx) : blI [bkL bl 0] 0 := by
  obtain ⟨a1, a2, a3, a4, a5, a6, a7, a8, a9⟩ := h
  have k0 : ∀ k, k < [bkL bl 0].length → k = 0 := fun k hk => by have q : k < 1 := hk; omega
  refine ⟨Nat.zero_lt_one, a2, ?_, Nat.zero_le _, wf_one a1 a5, fun k hk => ?_, fun i j hi hj _ => ?_, fun k hk => ?_, fun k hk => ?_⟩
  · show 0 + 109 = 0 + (bBy bl 0).length + 6 * 1
    omega
  · rw [k0 k hk]; exact a6 0 a1
  · rw [k0 i hi, k0 j hj]
  · rw [k0 k hk]; exact a8 0 a1
  · rw [k0 k hk]; exact a9 0 a1
def up0 (S : ks_S) : ks_S := ([bkL (ksB S) 0], 0, 0, none, ksD S, [], [], ksQ S)
def upR : Nat → ks_S → ks_S
  | 0, S => S
  | m + 1, S => if rdO S = true then upR m (rdS S) else S
def upK (N : nd_N) : ks_S := upR 112 (up0 N.1)
def upN (N : nd_N) : nd_N := ((ksB (upK N), ksT (upK N), ksN (upK N), none, ksD N.1, [], [], ksQ N.1), true, N.2.2)
theorem upR_I : ∀ m S, blI (ksB S) (ksN S) → ksT S < (ksB S).length → blI (ksB (upR m S)) (ksN (upR m S)) ∧ ksT (upR m S) < (ksB (upR m S)).length ∧ ksD (upR m S) = ksD S := by
  intro m
  induction m with
  | zero => intro S h1 h2; exact ⟨h1, h2, rfl⟩
  | succ m ih =>
    intro S h1 h2
    unfold upR
    by_cases c : rdO S = true
    · rw [if_pos c]
      have q := rd_I h1 c h2
      exact ih (rdS S) q.1 q.2
    · rw [if_neg c]; exact ⟨h1, h2, rfl⟩
theorem upN_I {N : nd_N} (h : ksI N.1) : ksI (upN N).1 := by
  have q := upR_I 112 (up0 N.1) h.1.one Nat.zero_lt_one
  exact ⟨q.1, q.2.1, (fun _ c => nomatch c), poW_nil, ⟨Nat.zero_le _, fun k hk => absurd hk (Nat.not_lt_zero k)⟩⟩
theorem one_0 {α : Type} {a : α} {k : Nat} (h : k < [a].length) : k = 0 := by have q : k < 1 := h; omega
theorem off_1 (l : by_L) : offL [l] 1 = l.length := by show 0 + (rowL [l] 0).length = l.length; rw [Nat.zero_add]; rfl
theorem c_btf_c {bl : List bk_B} {fc : Nat → Int32} {x : Nat} (e1 : enB [bkL bl 0] = [enL (enB bl) 0]) (e3 : eH (enB bl) 0 = 0) (hx : x ≤ eH (enB [bkL bl 0]) 0) : upd fc 0 (nI 0) x = nI (chE (enB [bkL bl 0]) 0 x) := by
  have q : x ≤ eH (enB bl) 0 := by rw [e1] at hx; exact hx
  rw [e3] at q
  have e : eH (enB [bkL bl 0]) 0 = 0 := by rw [e1]; exact e3
  rw [show x = 0 by omega, upd_s]
  unfold chE
  rw [e]
  rfl
theorem c_btf_o {bl : List bk_B} (hl : 0 < bl.length) (r3 : offL (bl.map Prod.fst) bl.length ≤ 12391) : offL ([bkL bl 0].map Prod.fst) ([bkL bl 0].map Prod.fst).length ≤ 12391 := by
  have q := offL_mono (bl.map Prod.fst) bl.length 1 (by omega)
  have e : offL (bl.map Prod.fst) 1 = (bBy bl 0).length := by simp only [offL]; rw [rowL_bl]; omega
  show offL [bBy bl 0] 1 ≤ 12391
  rw [off_1]
  omega
theorem c_btf_g {bl : List bk_B} {g : Nat → Int32} (hl : 0 < bl.length) (hx : ∀ k, k ≤ (bl.map Prod.fst).length → g k = nI (offL (bl.map Prod.fst) k)) {k : Nat} (hk : k ≤ ([bkL bl 0].map Prod.fst).length) : g k = nI (offL ([bkL bl 0].map Prod.fst) k) := by
  rw [List.length_map] at hx
  have hk1 : k ≤ 1 := hk
  rw [hx k (by omega)]
  rcases (show k = 0 ∨ k = 1 by omega) with c | c
  · rw [c]; rfl
  · rw [c]
    have e : offL (bl.map Prod.fst) 1 = (bBy bl 0).length := by simp only [offL]; rw [rowL_bl]; omega
    rw [e]
    show nI (bBy bl 0).length = nI (offL [bBy bl 0] 1)
    rw [off_1]
theorem c_btf_a {bl : List bk_B} {f : Nat → Int32} (hl : 0 < bl.length) (hx : ∀ k, k < (bl.map Prod.fst).length → isA f (offL (bl.map Prod.fst) k) (rowL (bl.map Prod.fst) k)) {k : Nat} (hk : k < ([bkL bl 0].map Prod.fst).length) : isA f (offL ([bkL bl 0].map Prod.fst) k) (rowL ([bkL bl 0].map Prod.fst) k) := by
  rw [List.length_map] at hx
  have hk0 : k = 0 := by have q : k < 1 := hk; omega
  have q := hx 0 hl
  rw [rowL_bl] at q
  rw [hk0]
  exact q
set_option maxHeartbeats 4000000 in
set_option maxRecDepth 100000 in
theorem c_btf {κ : hz_C} {z t : Nat} {M : hz_M} {bl : List bk_B} {tip : Nat} (h : trR M t bl tip (enB bl)) (hl : 0 < bl.length) (ht8 : 63 ≤ t) (htz : t + 13 ≤ z) : hz_Mt κ xX10_backToFirst 1 0 0 [.ref t] z M (fun r z2 M2 => none = r ∧ z = z2 ∧ frS [(t, t + 13)] M M2 ∧ trR M2 t [bkL bl 0] 0 (enB [bkL bl 0])) := by
  refine hz_ent (lo := [(0, .ref t)]) (by decide) (Nat.le_of_ble_eq_true rfl) rfl ?_
  obtain ⟨tO, ⟨r1, r2, r3, fB, gB, hfB, hgB, hx1, hx2⟩, ⟨fh, hfh, hhx⟩, ⟨fb, fht, ftm, fbi, t5, t6, t7, t8, tX⟩, ⟨fto, t9, htx⟩, ⟨fid, t10, hix⟩, ⟨fc, t11, hcx⟩, ⟨fm, t12⟩, w1, w2, w3, w4, w5, w6⟩ := id h
  rw [List.length_map] at r1 r2 r3
  obtain ⟨e1, e2, e3⟩ := en_one hl w5
  have hle : 0 < (enB bl).length := by rw [enB_len]; exact hl
  refine hz_aloadn (pc := 0) 0 (hz_dec kX10_backToFirst 0 rfl) rfl ?_
  refine hz_get (pc := 1) (hz_dec kX10_backToFirst 1 rfl) fo_X10_14 tO (by omega) (by omega) rfl ?_
  refine hz_iconst (pc := 4) (v := nI 1) (hz_dec kX10_backToFirst 2 rfl) (by decide) ?_
  refine hz_aloadn (pc := 5) 0 (hz_dec kX10_backToFirst 3 rfl) rfl ?_
  refine hz_get (pc := 6) (hz_dec kX10_backToFirst 4 rfl) fo_X10_14 tO (by omega) (by omega) rfl ?_
  refine hz_get (pc := 9) (hz_dec kX10_backToFirst 5 rfl) fo_X10_54 r1 (by omega) (by omega) rfl ?_
  refine hz_xS (pc := 12) (As := [.int (nI 1), .int (nI (bl.length))]) (st := [.ref (t + 1)]) (hz_dec kX10_backToFirst 6 rfl) co_X10_58 sc_J9_min_7cf53 (c_min (by decide) (by omega)) rfl (by decide) ⟨Nat.le_refl _, Nat.le_refl _⟩ (Nat.le_of_ble_eq_true rfl) rfl ?_
  refine hz_eqi (pc := 15) (show nI (min 1 bl.length) = nI 1 by rw [Nat.min_eq_left (by omega)]) ?_
  refine hz_puti (pc := 15) (hz_dec kX10_backToFirst 7 rfl) fo_X10_54 ft_X7_2 r1 (by omega) (by omega) (Nat.le_of_ble_eq_true rfl) ?_
  refine hz_mem (pc := 18) (M2 := (va_up M (t + 1) (.inr (7, [.ref (t + 1 + 1), .ref (t + 1 + 2), .int (nI 1)])))) rfl ?_
  refine hz_aloadn (pc := 18) 0 (hz_dec kX10_backToFirst 8 rfl) rfl ?_
  refine hz_iconst (pc := 19) (v := nI 0) (hz_dec kX10_backToFirst 9 rfl) (by decide) ?_
  refine hz_puti (pc := 20) (hz_dec kX10_backToFirst 10 rfl) fo_X10_64 ft_X10_8 (hz_mne tO (by omega)) (by omega) (by omega) (Nat.le_of_ble_eq_true rfl) ?_
  refine hz_mem (pc := 23) (M2 := (va_up (va_up M (t + 1) (.inr (7, [.ref (t + 1 + 1), .ref (t + 1 + 2), .int (nI 1)]))) t (.inr (10, [.ref (t + 1), .ref (t + 4), .ref (t + 5), .ref (t + 6), .ref (t + 7), .ref (t + 8), .ref (t + 9), .ref (t + 10), .int (nI 0), .ref (t + 11), .ref (t + 12), .ref 20])))) rfl ?_
  refine hz_aloadn (pc := 23) 0 (hz_dec kX10_backToFirst 11 rfl) rfl ?_
  refine hz_get (pc := 24) (hz_dec kX10_backToFirst 12 rfl) fo_X10_44 (va_up_self _ _ _) (by omega) (by omega) rfl ?_
  refine hz_iconst (pc := 27) (v := nI 0) (hz_dec kX10_backToFirst 13 rfl) (by decide) ?_
  refine hz_iconst (pc := 28) (v := nI 0) (hz_dec kX10_backToFirst 14 rfl) (by decide) ?_
  refine hz_iast (pc := 29) (j := 0) (hz_dec kX10_backToFirst 15 rfl) (hz_mne (hz_mne t11 (by omega)) (by omega)) (by omega) (by omega) rfl (by omega) (by decide) ?_
  have hf : frS [(t, t + 13)] M (va_up (va_up (va_up M (t + 1) (.inr (7, [.ref (t + 1 + 1), .ref (t + 1 + 2), .int (nI 1)]))) t (.inr (10, [.ref (t + 1), .ref (t + 4), .ref (t + 5), .ref (t + 6), .ref (t + 7), .ref (t + 8), .ref (t + 9), .ref (t + 10), .int (nI 0), .ref (t + 11), .ref (t + 12), .ref 20]))) (t + 11) (.inl (0, 113, .inl (upd fc 0 ((nI (0))))))) := ((((frS.rf (S := [(t, t + 13)])).upr (a := t + 1) (by simp only [outS, and_true]; omega)).upr (a := t) (by simp only [outS, and_true]; omega)).upr (a := t + 11) (by simp only [outS, and_true]; omega))
  exact hz_vret (pc := 30) (hz_dec kX10_backToFirst 16 rfl) rfl ⟨rfl, rfl, hf, hz_mne (va_up_self _ _ _) (by omega), ⟨hz_mne (hz_mne (va_up_self _ _ _) (by omega)) (by omega), (by decide : (1 : Nat) ≤ 113), c_btf_o hl r3, fB, gB, hz_mne (hz_mne (hz_mne hfB (by omega)) (by omega)) (by omega), hz_mne (hz_mne (hz_mne hgB (by omega)) (by omega)) (by omega), fun k hk => c_btf_g hl hx1 hk, fun k hk => c_btf_a hl hx2 hk⟩, ⟨fh, hz_mne (hz_mne (hz_mne hfh (by omega)) (by omega)) (by omega), fun k hk => by rw [one_0 hk]; exact hhx 0 hl⟩, ⟨fb, fht, ftm, fbi, hz_mne (hz_mne (hz_mne t5 (by omega)) (by omega)) (by omega), hz_mne (hz_mne (hz_mne t6 (by omega)) (by omega)) (by omega), hz_mne (hz_mne (hz_mne t7 (by omega)) (by omega)) (by omega), hz_mne (hz_mne (hz_mne t8 (by omega)) (by omega)) (by omega), fun k hk => by rw [e1] at hk ⊢; rw [one_0 hk]; exact tX 0 hle⟩, ⟨fto, hz_mne (hz_mne (hz_mne t9 (by omega)) (by omega)) (by omega), fun k hk => by rw [one_0 hk]; exact htx 0 hl⟩, ⟨fid, hz_mne (hz_mne (hz_mne t10 (by omega)) (by omega)) (by omega), fun k hk => by rw [one_0 hk]; exact hix 0 hl⟩, ⟨_, va_up_self _ _ _, fun x hx9 => c_btf_c e1 e3 hx9⟩, ⟨fm, hz_mne (hz_mne (hz_mne t12 (by omega)) (by omega)) (by omega)⟩, (by decide : (1 : Nat) ≤ 113), (by rw [enB_len]; exact Nat.le_refl _), (by rw [enB_len]; exact (by decide : (1 : Nat) ≤ 129)), fun k hk => by rw [one_0 hk]; rfl, wf_one hl w5, Nat.zero_lt_one⟩
set_option maxHeartbeats 4000000 in
set_option maxRecDepth 100000 in
theorem c_fgt {κ : hz_C} {z nb v : Nat} {M : hz_M} {N : nd_N} {S : ks_S} (hnb : 63 ≤ nb) (hnbz : nb + 34 ≤ z) {up : Int32} {fu rc rf : Int32} (hn : M nb = ndO nb (nI v) up (nI (ksN S)) fu rc rf) (hT : trR M (nb + 21) (ksB S) (ksT S) (enB (ksB S))) {cs : List co_C} (hc : coR M (nb + 2) cs) {po : List po_P} (hp : plR M nb po) {lo : List by_L} (hL : loR M nb lo) (hI : blI (ksB S) (ksN S)) (ht : ksT S < (ksB S).length) : hz_Mt κ xX6_forget 4 0 0 [.ref nb] z M (fun r z2 M2 => none = r ∧ z = z2 ∧ frS [(nb, nb + 34)] M M2 ∧ M2 nb = ndO nb (nI v) up (nI (ksN S)) (-1) rc rf ∧ M2 (nb + 1) = M (nb + 1) ∧ trR M2 (nb + 21) (ksB S) (ksT S) (enB (ksB S)) ∧ coR M2 (nb + 2) (coAt (ksB S) (enB (ksB S)) (ksT S)) ∧ plR M2 nb [] ∧ loR M2 nb []) := by
  refine hz_ent (lo := [(0, .ref nb)]) (by decide) (Nat.le_of_ble_eq_true rfl) rfl ?_
  obtain ⟨b1, b2, b3, b4, b5, b6, b7, b8⟩ := hI.p ht
  obtain ⟨hp1, ff, hff, hfx⟩ := id hp
  obtain ⟨hl1, hl2, gch, hch⟩ := id hL
  refine hz_aloadn (pc := 0) 0 (hz_dec kX6_forget 0 rfl) rfl ?_
  refine hz_get (pc := 1) (hz_dec kX6_forget 1 rfl) fo_X6_35 hn (by omega) (by omega) rfl ?_
  refine hz_callV (pc := 4) (a := nb + 10) (As := []) (st := []) (hz_dec kX6_forget 2 rfl) co_X6_65 im_X7_clear se_X7_clear rfl hp1.1 (by omega) (by omega) (c_rwClr hp1 (by omega) (by omega) (by decide) (by decide)) rfl (by decide) ⟨Nat.le_refl _, Nat.le_refl _⟩ (Nat.le_of_ble_eq_true rfl) rfl (fun r9 z9 M1 hp9 => ?_)
  obtain ⟨rfl, rfl, hf1, hp1b⟩ := hp9
  have hn1 := (hf1.at1 (q := nb) (by omega)).trans hn
  have hl11 := hl1.fr (M2 := M1) (fun q q1 q2 => hf1.at1 (by omega))
  have hl21 := hl2.fr (M2 := M1) (fun q q1 q2 => hf1.at1 (by omega))
  refine hz_aloadn (pc := 7) 0 (hz_dec kX6_forget 3 rfl) rfl ?_
  refine hz_get (pc := 8) (hz_dec kX6_forget 4 rfl) fo_X6_47 hn1 (by omega) (by omega) rfl ?_
  refine hz_callV (pc := 11) (a := nb + 15) (As := []) (st := []) (hz_dec kX6_forget 5 rfl) co_X6_65 im_X7_clear se_X7_clear rfl hl11.1 (by omega) (by omega) (c_rwClr hl11 (by omega) (by omega) (by decide) (by decide)) rfl (by decide) ⟨Nat.le_refl _, Nat.le_refl _⟩ (Nat.le_of_ble_eq_true rfl) rfl (fun r9 z9 M2 hp9 => ?_)
  obtain ⟨rfl, rfl, hf2, hl1b⟩ := hp9
  have hn2 := (hf2.at1 (q := nb) (by omega)).trans hn1
  have hl22 := hl21.fr (M2 := M2) (fun q q1 q2 => hf2.at1 (by omega))
  refine hz_aloadn (pc := 14) 0 (hz_dec kX6_forget 6 rfl) rfl ?_
  refine hz_get (pc := 15) (hz_dec kX6_forget 7 rfl) fo_X6_50 hn2 (by omega) (by omega) rfl ?_
  refine hz_callV (pc := 18) (a := nb + 18) (As := []) (st := []) (hz_dec kX6_forget 8 rfl) co_X6_65 im_X7_clear se_X7_clear rfl hl22.1 (by omega) (by omega) (c_rwClr hl22 (by omega) (by omega) (by decide) (by decide)) rfl (by decide) ⟨Nat.le_refl _, Nat.le_refl _⟩ (Nat.le_of_ble_eq_true rfl) rfl (fun r9 z9 M3 hp9 => ?_)
  obtain ⟨rfl, rfl, hf3, hl2b⟩ := hp9
  have hn3 := (hf3.at1 (q := nb) (by omega)).trans hn2
  refine hz_aloadn (pc := 21) 0 (hz_dec kX6_forget 9 rfl) rfl ?_
  refine hz_iconst (pc := 22) (v := (-1)) (hz_dec kX6_forget 10 rfl) (by decide) ?_
  refine hz_puti (pc := 23) (hz_dec kX6_forget 11 rfl) fo_X6_19 ft_X6_4 hn3 (by omega) (by omega) (Nat.le_of_ble_eq_true rfl) ?_
  refine hz_mem (pc := 26) (M2 := (va_up M3 nb (.inr (6, [.int (nI v), .int up, .ref (nb + 1), .int (nI (ksN S)), .int (-1), .ref (nb + 21), .ref (nb + 2), .ref (nb + 10), .ref (nb + 13), .ref (nb + 14), .ref (nb + 15), .ref (nb + 18), .int rc, .int rf])))) rfl ?_
  have hT4 : trR (va_up M3 nb (.inr (6, [.int (nI v), .int up, .ref (nb + 1), .int (nI (ksN S)), .int (-1), .ref (nb + 21), .ref (nb + 2), .ref (nb + 10), .ref (nb + 13), .ref (nb + 14), .ref (nb + 15), .ref (nb + 18), .int rc, .int rf]))) (nb + 21) (ksB S) (ksT S) (enB (ksB S)) := hT.fr (fun q q1 q2 => (va_up_ne _ _ (by omega)).trans ((hf3.at1 (by omega)).trans ((hf2.at1 (by omega)).trans (hf1.at1 (by omega)))))
  have hc4 : coR (va_up M3 nb (.inr (6, [.int (nI v), .int up, .ref (nb + 1), .int (nI (ksN S)), .int (-1), .ref (nb + 21), .ref (nb + 2), .ref (nb + 10), .ref (nb + 13), .ref (nb + 14), .ref (nb + 15), .ref (nb + 18), .int rc, .int rf]))) (nb + 2) cs := hc.fr (fun q q1 q2 => (va_up_ne _ _ (by omega)).trans ((hf3.at1 (by omega)).trans ((hf2.at1 (by omega)).trans (hf1.at1 (by omega)))))
  have hp4 : rwR (va_up M3 nb (.inr (6, [.int (nI v), .int up, .ref (nb + 1), .int (nI (ksN S)), .int (-1), .ref (nb + 21), .ref (nb + 2), .ref (nb + 10), .ref (nb + 13), .ref (nb + 14), .ref (nb + 15), .ref (nb + 18), .int rc, .int rf]))) (nb + 10) 5728 16 [] := hp1b.fr (fun q q1 q2 => (va_up_ne _ _ (by omega)).trans ((hf3.at1 (by omega)).trans (hf2.at1 (by omega))))
  have hff4 : (va_up M3 nb (.inr (6, [.int (nI v), .int up, .ref (nb + 1), .int (nI (ksN S)), .int (-1), .ref (nb + 21), .ref (nb + 2), .ref (nb + 10), .ref (nb + 13), .ref (nb + 14), .ref (nb + 15), .ref (nb + 18), .int rc, .int rf]))) (nb + 13) = .inl (2, 16, .inr (.inl ff)) := ((va_up_ne _ _ (by omega)).trans ((hf3.at1 (by omega)).trans ((hf2.at1 (by omega)).trans (hf1.at1 (by omega))))).trans hff
  have hl14 : rwR (va_up M3 nb (.inr (6, [.int (nI v), .int up, .ref (nb + 1), .int (nI (ksN S)), .int (-1), .ref (nb + 21), .ref (nb + 2), .ref (nb + 10), .ref (nb + 13), .ref (nb + 14), .ref (nb + 15), .ref (nb + 18), .int rc, .int rf]))) (nb + 15) 23560 8 [] := hl1b.fr (fun q q1 q2 => (va_up_ne _ _ (by omega)).trans (hf3.at1 (by omega)))
  have hl24 : rwR (va_up M3 nb (.inr (6, [.int (nI v), .int up, .ref (nb + 1), .int (nI (ksN S)), .int (-1), .ref (nb + 21), .ref (nb + 2), .ref (nb + 10), .ref (nb + 13), .ref (nb + 14), .ref (nb + 15), .ref (nb + 18), .int rc, .int rf]))) (nb + 18) 256 8 [] := hl2b.fr (fun q q1 q2 => va_up_ne _ _ (by omega))
  have hf4 : frS [(nb, nb + 34)] M (va_up M3 nb (.inr (6, [.int (nI v), .int up, .ref (nb + 1), .int (nI (ksN S)), .int (-1), .ref (nb + 21), .ref (nb + 2), .ref (nb + 10), .ref (nb + 13), .ref (nb + 14), .ref (nb + 15), .ref (nb + 18), .int rc, .int rf]))) := (((hf1.mono (fun q hq => by simp only [outS, and_true] at hq ⊢; omega)).tr (hf2.mono (fun q hq => by simp only [outS, and_true] at hq ⊢; omega))).tr (hf3.mono (fun q hq => by simp only [outS, and_true] at hq ⊢; omega))).upr (a := nb) (by simp only [outS, and_true]; omega)
  have hn4 : (va_up M3 nb (.inr (6, [.int (nI v), .int up, .ref (nb + 1), .int (nI (ksN S)), .int (-1), .ref (nb + 21), .ref (nb + 2), .ref (nb + 10), .ref (nb + 13), .ref (nb + 14), .ref (nb + 15), .ref (nb + 18), .int rc, .int rf]))) nb = ndO nb (nI v) up (nI (ksN S)) (-1) rc rf := va_up_self _ _ _
  have h14 : (va_up M3 nb (.inr (6, [.int (nI v), .int up, .ref (nb + 1), .int (nI (ksN S)), .int (-1), .ref (nb + 21), .ref (nb + 2), .ref (nb + 10), .ref (nb + 13), .ref (nb + 14), .ref (nb + 15), .ref (nb + 18), .int rc, .int rf]))) (nb + 1) = M (nb + 1) := (va_up_ne _ _ (by omega)).trans ((hf3.at1 (by omega)).trans ((hf2.at1 (by omega)).trans (hf1.at1 (by omega))))
  have hch4 : (va_up M3 nb (.inr (6, [.int (nI v), .int up, .ref (nb + 1), .int (nI (ksN S)), .int (-1), .ref (nb + 21), .ref (nb + 2), .ref (nb + 10), .ref (nb + 13), .ref (nb + 14), .ref (nb + 15), .ref (nb + 18), .int rc, .int rf]))) (nb + 14) = .inl (0, 7, .inl gch) := ((va_up_ne _ _ (by omega)).trans ((hf3.at1 (by omega)).trans ((hf2.at1 (by omega)).trans (hf1.at1 (by omega))))).trans hch
  generalize (va_up M3 nb (.inr (6, [.int (nI v), .int up, .ref (nb + 1), .int (nI (ksN S)), .int (-1), .ref (nb + 21), .ref (nb + 2), .ref (nb + 10), .ref (nb + 13), .ref (nb + 14), .ref (nb + 15), .ref (nb + 18), .int rc, .int rf]))) = M4 at *
  have htO := hT4.1
  have hcO := hc4.1
  refine hz_aloadn (pc := 26) 0 (hz_dec kX6_forget 12 rfl) rfl ?_
  refine hz_get (pc := 27) (hz_dec kX6_forget 13 rfl) fo_X6_26 hn4 (by omega) (by omega) rfl ?_
  refine hz_aloadn (pc := 30) 0 (hz_dec kX6_forget 14 rfl) rfl ?_
  refine hz_get (pc := 31) (hz_dec kX6_forget 15 rfl) fo_X6_61 hn4 (by omega) (by omega) rfl ?_
  refine hz_aloadn (pc := 34) 0 (hz_dec kX6_forget 16 rfl) rfl ?_
  refine hz_get (pc := 35) (hz_dec kX6_forget 17 rfl) fo_X6_61 hn4 (by omega) (by omega) rfl ?_
  refine hz_get (pc := 38) (hz_dec kX6_forget 18 rfl) fo_X6_68 htO (by omega) (by omega) rfl ?_
  refine hz_callV (pc := 41) (a := nb + 2) (As := [.ref (nb + 21), .int (nI (ksT S))]) (st := []) (hz_dec kX6_forget 19 rfl) co_X6_71 im_X1_replay se_X1_replay rfl hcO (by omega) (by omega) (c_rep hT4 (by omega) (by omega) hc4 (by omega) (by omega) (by omega) ht b4 (b6 _ ht)) rfl (by decide) ⟨Nat.le_refl _, Nat.le_refl _⟩ (Nat.le_of_ble_eq_true rfl) rfl (fun r9 z9 M5 hp9 => ?_)
  obtain ⟨rfl, rfl, hf5, hc5⟩ := hp9
  exact hz_vret (pc := 44) (hz_dec kX6_forget 20 rfl) rfl ⟨rfl, rfl, hf4.tr (hf5.mono (fun q hq => by simp only [outS, and_true] at hq ⊢; omega)), (hf5.at1 (by omega)).trans hn4, (hf5.at1 (by omega)).trans h14, hT4.fr (fun q q1 q2 => hf5.at1 (by omega)), hc5, ⟨hp4.fr (fun q q1 q2 => hf5.at1 (by omega)), ff, (hf5.at1 (by omega)).trans hff4, fun k hk => absurd hk (Nat.not_lt_zero k)⟩, hl14.fr (fun q q1 q2 => hf5.at1 (by omega)), hl24.fr (fun q q1 q2 => hf5.at1 (by omega)), gch, (hf5.at1 (by omega)).trans hch4⟩
