/-! headers: the pure side; Tree.lend -/
theorem insF_pos {t : Int32} (ht : ¬ t < 0) : ∀ i (f : Nat → Int32), (∀ j, j < i → ¬ f j < 0) → ∀ j, j ≤ i → ¬ insF t i f j < 0 := by
  intro i
  induction i with
  | zero => intro f h j hj; simp only [insF, upd]; rw [if_pos (by omega)]; exact ht
  | succ i ih =>
    intro f h j hj
    simp only [insF]
    split
    · rcases (show j ≤ i ∨ j = i + 1 by omega) with c | c
      · refine ih _ (fun q hq => ?_) j c
        simp only [upd]
        rw [if_neg (by omega)]
        exact h q (by omega)
      · rw [insF_out _ _ _ _ (by omega)]
        simp only [upd]
        rw [if_pos c]
        exact h i (by omega)
    · simp only [upd]
      split
      · exact ht
      · exact h j (by omega)
theorem midF_pos {en : List en_E} (hw : wfE en) : ∀ m n p (f : Nat → Int32), (∀ x, p = some x → x < en.length) → (∀ j, j < n → ¬ f j < 0) → ∀ j, j < (midF en m n p f).2 → ¬ (midF en m n p f).1 j < 0 := by
  intro m
  induction m with
  | zero => intro n p f hp h j hj; exact h j hj
  | succ m ih =>
    intro n p f hp h j hj
    cases p with
    | none => exact h j hj
    | some k =>
      simp only [midF] at hj ⊢
      have hk := hp k rfl
      have w := hw k hk
      exact ih (n + 1) (eP en k) _ (fun x hx => by have q := (w.1 x hx).1; omega) (fun q hq => insF_pos w.2.2.1 n f h q (by omega)) j hj
theorem midE_pos {en : List en_E} (hw : wfE en) {k : Nat} (hk : k < en.length) : ¬ midE en k < 0 := by
  unfold midE
  refine midF_pos hw 11 0 (some k) _ (fun x hx => by cases hx; exact hk) (fun j hj => absurd hj (by omega)) _ ?_
  have e : 1 ≤ (midF en 11 0 (some k) (fun _ => 0)).2 := by
    simp only [midF]
    exact (midF_le en 10 1 _ _).1
  omega
theorem enL_apps {en ex : List en_E} {k : Nat} (h : k < en.length) : enL (en ++ ex) k = enL en k := by
  unfold enL
  rw [List.getD_eq_getElem?_getD, List.getD_eq_getElem?_getD, List.getElem?_append_left h]
theorem eH_apps {en ex : List en_E} {k : Nat} (h : k < en.length) : eH (en ++ ex) k = eH en k := by unfold eH; rw [enL_apps h]
theorem eP_apps {en ex : List en_E} {k : Nat} (h : k < en.length) : eP (en ++ ex) k = eP en k := by unfold eP; rw [enL_apps h]
theorem upE_apps {en ex : List en_E} (hw : wfE en) {k : Nat} (hk : k < en.length) : ∀ i, i ≤ eH en k → upE (en ++ ex) k i = upE en k i := by
  intro i
  induction i with
  | zero => intro _; rfl
  | succ i ih =>
    intro hi
    have q := hw.up hk i (by omega)
    simp only [upE]
    rw [ih (by omega), eP_apps (by omega)]
theorem chE_apps {en ex : List en_E} (hw : wfE en) {k : Nat} (hk : k < en.length) {h : Nat} : chE (en ++ ex) k h = chE en k h := by
  unfold chE
  rw [eH_apps hk, upE_apps hw hk _ (by omega)]
theorem trR.cut {M : hz_M} {t : Nat} {bl : List bk_B} {tip : Nat} {ex : List en_E} (h : trR M t bl tip (enB bl ++ ex)) (hw : wfE (enB bl)) : trR M t bl tip (enB bl) := by
  obtain ⟨hT, hrw, hfh, ⟨fb, fht, ftm, fbi, hfb, hfht, hftm, hfbi, hEX⟩, hto, hid, ⟨fc, hfc, hfcX⟩, hm, w1, w2, w3, w4, w5, w6⟩ := h
  have hl := enB_len bl
  refine ⟨hT, hrw, hfh, ⟨fb, fht, ftm, fbi, hfb, hfht, hftm, hfbi, fun k hk => ?_⟩, hto, hid, ⟨fc, hfc, fun h hh => ?_⟩, hm, w1, by omega, by omega, fun k hk => ?_, hw, w6⟩
  · have q := hEX k (by rw [List.length_append]; omega)
    unfold eP eH eT eB at q ⊢
    rw [enL_apps hk] at q
    exact q
  · have q := hfcX h (by rw [eH_apps (by omega)]; exact hh)
    rw [chE_apps hw (by omega)] at q
    exact q
  · have q := w4 k hk
    rw [enL_apps (by omega)] at q
    exact q
/-- entries, whether the header before was lent, the hashes to ask for -/
abbrev hh_S : Type := List en_E × Bool × by_L
def hhd (l : by_L) (i : Nat) : by_L := subL l (80 * i) 80
def hhP (bl : List bk_B) (h : by_L) (s : hh_S) : Option Nat := if blF bl (subL h 0 32) < bl.length then some (blF bl (subL h 0 32)) else if s.2.1 = true ∧ subL h 0 32 = subL s.2.2 (s.2.2.length - 32) 32 then some (s.1.length - 1) else none
def hhK (en : List en_E) (h : by_L) (p : Nat) : Bool := decide (midE en p < bn_int (lf h) 64 ∧ bn_int (lf h) 68 = dueE en p)
def hhT (bl : List bk_B) (h : by_L) (s : hh_S) : Option hh_S := if blF bl (hhH h) < bl.length then some (s.1, false, s.2.2) else match hhP bl h s with
  | none => none
  | some p => if wkS h = true ∧ hhK s.1 h p = true then some (s.1 ++ [enN_ s.1 h p], true, s.2.2 ++ hhH h) else none
def hhQ (bl : List bk_B) (l : by_L) : Nat → Nat → hh_S → by_L
  | 0, _, s => s.2.2
  | k + 1, i, s => match hhT bl (hhd l i) s with
    | none => s.2.2
    | some s2 => hhQ bl l k (i + 1) s2
def hhI (bl : List bk_B) (l : by_L) (i : Nat) (s : hh_S) : Prop := (∃ ex, s.1 = enB bl ++ ex) ∧ wfE s.1 ∧ ∃ c, c ≤ i ∧ s.1.length = bl.length + c ∧ s.2.2.length = 32 * c ∧ (s.2.1 = true → 1 ≤ c ∧ 1 ≤ i ∧ subL s.2.2 (s.2.2.length - 32) 32 = hhH (hhd l (i - 1))) ∧ (s.2.1 = false → i = 0 ∨ blF bl (hhH (hhd l (i - 1))) < bl.length)
def hhZ (bl : List bk_B) (l : by_L) (n : Nat) : by_L := hhQ bl l n 0 (enB bl, false, [])
def hsQ (now : Int32) (v : Nat) (fr : Int32) (d : Nat) (S : ks_S) (l : by_L) (n : Nat) : mq_S := if (hhZ (ksB S) l n).length = 0 then ksQ S else sd1 now (nI v) fr (nI 4) d (hhZ (ksB S) l n) (ksQ S)
theorem hhH_len (h : by_L) : (hhH h).length = 32 := dgS_len _
theorem subL_apr {a b : by_L} {n : Nat} (hb : b.length = n) : subL (a ++ b) ((a ++ b).length - n) n = b := by
  have hl : (a ++ b).length - n = a.length := by rw [List.length_append]; omega
  rw [hl]
  refine lf_ext (by rw [subL_len]; exact hb.symm) (fun j hj => ?_)
  rw [subL_len] at hj
  rw [lf_subL hj]
  unfold lf
  rw [List.getD_eq_getElem?_getD, List.getD_eq_getElem?_getD, List.getElem?_append_right (by omega), Nat.add_sub_cancel_left]
theorem hhP_lt {bl : List bk_B} {l h : by_L} {i : Nat} {s : hh_S} (hI : hhI bl l i s) {p : Nat} (hp : hhP bl h s = some p) : p < s.1.length := by
  obtain ⟨-, -, c, c1, c2, c3, c4, -⟩ := hI
  unfold hhP at hp
  split at hp
  · cases hp; omega
  · split at hp
    · rename_i q
      have r := c4 q.1
      cases hp; omega
    · cases hp
theorem hhW_R {h : by_L} (w : wkS h = true) : tgR (bn_int (lf h) 68) = true := by
  unfold wkS at w
  rw [Bool.and_eq_true] at w
  exact w.1
theorem hhE_w {en : List en_E} {h : by_L} {p : Nat} (hw : wfE en) (hp : p < en.length) (w : wkS h = true) (k : hhK en h p = true) : wfE (en ++ [enN_ en h p]) := by
  have q := of_decide_eq_true k
  exact wfE_app hw hp rfl (fun c => midE_pos hw hp (Int32.lt_trans q.1 c)) (hhW_R w)
theorem hhT_I {bl : List bk_B} {l : by_L} {i : Nat} {s s2 : hh_S} (hI : hhI bl l i s) (e : hhT bl (hhd l i) s = some s2) : hhI bl l (i + 1) s2 := by
  have hlt := fun p => hhP_lt (h := hhd l i) (p := p) hI
  obtain ⟨⟨ex, hex⟩, hw, c, c1, c2, c3, c4, c5⟩ := hI
  unfold hhT at e
  split at e
  · rename_i q
    cases e
    exact ⟨⟨ex, hex⟩, hw, c, by omega, c2, c3, (fun x => nomatch x), fun _ => Or.inr q⟩
  · split at e
    · cases e
    · rename_i p hp
      split at e
      · rename_i q
        cases e
        refine ⟨⟨ex ++ [enN_ s.1 (hhd l i) p], ?_⟩, hhE_w hw (hlt p hp) q.1 q.2, c + 1, by omega, ?_, ?_, fun _ => ⟨by omega, by omega, ?_⟩, fun x => by cases x⟩
        · show s.1 ++ _ = _
          rw [hex, List.append_assoc]
        · show (s.1 ++ _).length = _
          rw [List.length_append, c2]; show bl.length + c + 1 = _; omega
        · show (s.2.2 ++ _).length = _
          rw [List.length_append, c3, hhH_len]; omega
        · exact subL_apr (hhH_len _)
      · cases e
theorem hhI0 {bl : List bk_B} {l : by_L} (hw : wfE (enB bl)) : hhI bl l 0 (enB bl, false, []) := ⟨⟨[], (List.append_nil _).symm⟩, hw, 0, Nat.le_refl _, enB_len bl, rfl, (fun x => nomatch x), fun _ => Or.inl rfl⟩
theorem trR.nt {M : hz_M} {t : Nat} {bl : List bk_B} {tip : Nat} {en : List en_E} {fb fht ftm fbi : Nat → Int32} {a1 a2 a3 a4 : Int32} {k : Nat} (hk : en.length ≤ k) (h : trR M t bl tip en) (kfb : M (t + 5) = .inl (0, 129, .inl fb)) (kfht : M (t + 6) = .inl (0, 129, .inl fht)) (kftm : M (t + 7) = .inl (0, 129, .inl ftm)) (kfbi : M (t + 8) = .inl (0, 129, .inl fbi)) (hEX : enX fb fht ftm fbi en) : trR (va_up (va_up (va_up (va_up M (t + 5) (.inl (0, 129, .inl (upd fb k a1)))) (t + 6) (.inl (0, 129, .inl (upd fht k a2)))) (t + 7) (.inl (0, 129, .inl (upd ftm k a3)))) (t + 8) (.inl (0, 129, .inl (upd fbi k a4)))) t bl tip en := by
  obtain ⟨hT, hrw, ⟨fh, hfh, hfhX⟩, -, ⟨fto, hfto, hftoX⟩, ⟨fid, hfid, hfidX⟩, ⟨fc, hfc, hfcX⟩, ⟨fm, hfm⟩, hw⟩ := h
  have e : ∀ q, ¬ q = t + 5 → ¬ q = t + 6 → ¬ q = t + 7 → ¬ q = t + 8 → va_up (va_up (va_up (va_up M (t + 5) (.inl (0, 129, .inl (upd fb k a1)))) (t + 6) (.inl (0, 129, .inl (upd fht k a2)))) (t + 7) (.inl (0, 129, .inl (upd ftm k a3)))) (t + 8) (.inl (0, 129, .inl (upd fbi k a4))) q = M q := fun q q1 q2 q3 q4 => (va_up_ne _ _ q4).trans ((va_up_ne _ _ q3).trans ((va_up_ne _ _ q2).trans (va_up_ne _ _ q1)))
  refine ⟨(e t (by omega) (by omega) (by omega) (by omega)).trans hT, hrw.fr (fun q h1 h2 => e q (by omega) (by omega) (by omega) (by omega)), ⟨fh, (e _ (by omega) (by omega) (by omega) (by omega)).trans hfh, hfhX⟩, ⟨upd fb k a1, upd fht k a2, upd ftm k a3, upd fbi k a4, hz_mne (hz_mne (hz_mne (va_up_self _ _ _) (by omega)) (by omega)) (by omega), hz_mne (hz_mne (va_up_self _ _ _) (by omega)) (by omega), hz_mne (va_up_self _ _ _) (by omega), va_up_self _ _ _, fun j hj => ?_⟩, ⟨fto, (e _ (by omega) (by omega) (by omega) (by omega)).trans hfto, hftoX⟩, ⟨fid, (e _ (by omega) (by omega) (by omega) (by omega)).trans hfid, hfidX⟩, ⟨fc, (e _ (by omega) (by omega) (by omega) (by omega)).trans hfc, hfcX⟩, ⟨fm, (e _ (by omega) (by omega) (by omega) (by omega)).trans hfm⟩, hw⟩
  rw [upd_o (by omega), upd_o (by omega), upd_o (by omega), upd_o (by omega)]
  exact hEX j hj
theorem trR.app {M : hz_M} {t : Nat} {bl : List bk_B} {tip : Nat} {en : List en_E} {h : by_L} {p : Nat} {fb fht ftm fbi : Nat → Int32} (hT : trR M t bl tip en) (hl : en.length < 129) (hw : wfE (en ++ [enN_ en h p])) (kfb : M (t + 5) = .inl (0, 129, .inl fb)) (kfht : M (t + 6) = .inl (0, 129, .inl fht)) (kftm : M (t + 7) = .inl (0, 129, .inl ftm)) (kfbi : M (t + 8) = .inl (0, 129, .inl fbi)) (e1 : fb en.length = nI p) (e2 : fht en.length = nI (eH en p + 1)) (e3 : ftm en.length = bn_int (lf h) 64) (e4 : fbi en.length = bn_int (lf h) 68) : trR M t bl tip (en ++ [enN_ en h p]) := by
  obtain ⟨hT, hrw, hfh, ⟨fb0, fht0, ftm0, fbi0, hfb, hfht, hftm, hfbi, hEX⟩, hto, hid, ⟨fc, hfc, hfcX⟩, hm, w1, w2, w3, w4, w5, w6⟩ := hT
  have q1 : fb0 = fb := by rw [kfb] at hfb; injection hfb with r; injection r with _ r; injection r with _ r; injection r with r; exact r.symm
  have q2 : fht0 = fht := by rw [kfht] at hfht; injection hfht with r; injection r with _ r; injection r with _ r; injection r with r; exact r.symm
  have q3 : ftm0 = ftm := by rw [kftm] at hftm; injection hftm with r; injection r with _ r; injection r with _ r; injection r with r; exact r.symm
  have q4 : fbi0 = fbi := by rw [kfbi] at hfbi; injection hfbi with r; injection r with _ r; injection r with _ r; injection r with r; exact r.symm
  subst q1 q2 q3 q4
  have hlen : (en ++ [enN_ en h p]).length = en.length + 1 := by rw [List.length_append]; rfl
  refine ⟨hT, hrw, hfh, ⟨fb0, fht0, ftm0, fbi0, kfb, kfht, kftm, kfbi, fun k hk => ?_⟩, hto, hid, ⟨fc, hfc, fun h2 hh => ?_⟩, hm, w1, by omega, by omega, fun k hk => ?_, hw, w6⟩
  · rcases (show k < en.length ∨ k = en.length by omega) with c | c
    · have q := hEX k c
      unfold eP eH eT eB at q ⊢
      rw [enL_app c]
      exact q
    · rw [c]
      unfold eP eT eB
      rw [show eH (en ++ [enN_ en h p]) en.length = eH en p + 1 by unfold eH; rw [enL_last]; rfl, enL_last]
      exact ⟨e1, e2, e3, e4⟩
  · rw [eH_app (by omega)] at hh
    rw [chE_app w5 (by omega)]
    exact hfcX h2 hh
  · rw [enL_app (by omega)]
    exact w4 k hk
set_option maxHeartbeats 4000000 in
set_option maxRecDepth 100000 in
theorem c_lend {κ : hz_C} {z : Nat} {M : hz_M} {t : Nat} {bl : List bk_B} {tip : Nat} {en : List en_E} (hT : trR M t bl tip en) (ht8 : 63 ≤ t) (htz : t + 13 ≤ z) (hw : ck_w M) {b n at_ : Nat} {f : Nat → Int32} {h : by_L} (hB : M b = .inl (1, n, .inl f)) (hb8 : 39 ≤ b) (hbz : b < z) (hbo : b < t ∨ t + 13 ≤ b) (hn : n < 2 ^ 24) (hA : isA f at_ h) (hl : h.length = 80) (hat : at_ + 80 ≤ n) {p c : Nat} (hp : p < en.length) (hc : c < 16) (hen : en.length = bl.length + c) : hz_Mt κ xX10_lend 4 0 0 [.ref t, .ref b, .int (nI at_), .int (nI p), .int (nI c)] z M (fun r z2 M2 => some (.int (hz_b (hhK en h p))) = r ∧ z = z2 ∧ frS [(21, 22), (t + 5, t + 9), (t + 12, t + 13)] M M2 ∧ ck_w M2 ∧ trR M2 t bl tip en ∧ (wfE (en ++ [enN_ en h p]) → trR M2 t bl tip (en ++ [enN_ en h p]))) := by
  refine hz_ent (lo := [(0, .ref t), (1, .ref b), (2, .int (nI at_)), (3, .int (nI p)), (4, .int (nI c))]) (by decide) (Nat.le_of_ble_eq_true rfl) rfl ?_
  obtain ⟨hT0, hrw, hfh, ⟨fb, fht, ftm, fbi, hfb, hfht, hftm, hfbi, hEX⟩, hto, hid, hfc, hm, w1, w2, w3, w4, w5, w6⟩ := id hT
  have hrO : M (t + 1) = .inr (7, [.ref (t + 1 + 1), .ref (t + 1 + 2), .int (nI bl.length)]) := by have q := hrw.1; rw [List.length_map] at q; exact q
  have h64 : bn_int f (at_ + 64) = bn_int (lf h) 64 := int_of hA (by omega)
  have h68 : bn_int f (at_ + 68) = bn_int (lf h) 68 := int_of hA (by omega)
  have hep := (hEX p hp).2.1
  have hht := w5.ht hp
  have hTn := trR.nt (a1 := nI p) (a2 := nI (eH en p + 1)) (a3 := bn_int f (at_ + 64)) (a4 := bn_int f (at_ + 68)) (k := bl.length + c) (by omega) hT hfb hfht hftm hfbi hEX
  refine hz_aloadn (pc := 0) 0 (hz_dec kX10_lend 0 rfl) rfl ?_
  refine hz_get (pc := 1) (hz_dec kX10_lend 1 rfl) fo_X10_14 hT0 (by omega) (by omega) rfl ?_
  refine hz_get (pc := 4) (hz_dec kX10_lend 2 rfl) fo_X10_54 hrO (by omega) (by omega) rfl ?_
  refine hz_iload (pc := 7) 4 (hz_dec kX10_lend 3 rfl) rfl ?_
  refine hz_addN (pc := 9) (hz_dec kX10_lend 4 rfl) ?_
  refine hz_istore (pc := 10) (i := 5) (lo2 := [(5, .int (nI ((bl.length) + c))), (0, .ref t), (1, .ref b), (2, .int (nI at_)), (3, .int (nI p)), (4, .int (nI c))]) (hz_dec kX10_lend 5 rfl) (by decide) rfl ?_
  refine hz_iloadn (pc := 12) 4 (hz_dec kX10_lend 6 rfl) rfl ?_
  refine hz_z_lt (pc := 13) (tgt := 34) (hz_dec kX10_lend 7 rfl) (by decide) (by omega) ?_
  refine hz_iloadn (pc := 16) 4 (hz_dec kX10_lend 8 rfl) rfl ?_
  refine hz_iload (pc := 17) 0 (hz_dec kX10_lend 9 rfl) rfl ?_
  refine hz_n_ge (pc := 19) (tgt := 34) (hz_dec kX10_lend 10 rfl) (by decide) (by omega) (by omega) (fun h2 => ?_) (fun h2 => ?_)
  · skip
    exact absurd h2 (by omega)
  · skip
    refine hz_iload (pc := 22) 5 (hz_dec kX10_lend 11 rfl) rfl ?_
    refine hz_z_lt (pc := 24) (tgt := 34) (hz_dec kX10_lend 12 rfl) (by decide) (by omega) ?_
    refine hz_iload (pc := 27) 5 (hz_dec kX10_lend 13 rfl) rfl ?_
    refine hz_bipush (pc := 29) (v := nI 16) (hz_dec kX10_lend 14 rfl) (by decide) ?_
    refine hz_n_lt (pc := 31) (tgt := 36) (hz_dec kX10_lend 15 rfl) (by decide) (by omega) (by omega) (fun h6 => ?_) (fun h6 => ?_)
    · skip
      refine hz_aloadn (pc := 36) 1 (hz_dec kX10_lend 18 rfl) rfl ?_
      refine hz_iload (pc := 37) 0 (hz_dec kX10_lend 19 rfl) rfl ?_
      refine hz_iloadn (pc := 39) 4 (hz_dec kX10_lend 20 rfl) rfl ?_
      refine hz_aloadn (pc := 40) 2 (hz_dec kX10_lend 21 rfl) rfl ?_
      refine hz_iloadn (pc := 41) 3 (hz_dec kX10_lend 22 rfl) rfl ?_
      refine hz_xV (pc := 42) (a := t) (As := [.int (nI ((bl.length) + c)), .int (nI p), .ref b, .int (nI at_)]) (st := []) (hz_dec kX10_lend 23 rfl) co_X10_87 im_X10_note se_X10_note rfl hT0 (by omega) (by omega) (c_note1 hT0 ht8 htz hfb hfht hftm hfbi hB (by omega) hbz hbo hn hat (k := bl.length + c) (by omega) (by omega) hep (by omega)) rfl (by decide) ⟨Nat.le_refl _, Nat.le_refl _⟩ (Nat.le_of_ble_eq_true rfl) rfl ?_
      have k5 : (va_up (va_up (va_up (va_up M (t + 5) (.inl (0, 129, .inl (upd fb (bl.length + c) (nI p))))) (t + 6) (.inl (0, 129, .inl (upd fht (bl.length + c) (nI (eH en p + 1)))))) (t + 7) (.inl (0, 129, .inl (upd ftm (bl.length + c) (bn_int f (at_ + 64)))))) (t + 8) (.inl (0, 129, .inl (upd fbi (bl.length + c) (bn_int f (at_ + 68)))))) (t + 5) = .inl (0, 129, .inl (upd fb (bl.length + c) (nI p))) := hz_mne (hz_mne (hz_mne (va_up_self _ _ _) (by omega)) (by omega)) (by omega)
      have k6 : (va_up (va_up (va_up (va_up M (t + 5) (.inl (0, 129, .inl (upd fb (bl.length + c) (nI p))))) (t + 6) (.inl (0, 129, .inl (upd fht (bl.length + c) (nI (eH en p + 1)))))) (t + 7) (.inl (0, 129, .inl (upd ftm (bl.length + c) (bn_int f (at_ + 64)))))) (t + 8) (.inl (0, 129, .inl (upd fbi (bl.length + c) (bn_int f (at_ + 68)))))) (t + 6) = .inl (0, 129, .inl (upd fht (bl.length + c) (nI (eH en p + 1)))) := hz_mne (hz_mne (va_up_self _ _ _) (by omega)) (by omega)
      have k7 : (va_up (va_up (va_up (va_up M (t + 5) (.inl (0, 129, .inl (upd fb (bl.length + c) (nI p))))) (t + 6) (.inl (0, 129, .inl (upd fht (bl.length + c) (nI (eH en p + 1)))))) (t + 7) (.inl (0, 129, .inl (upd ftm (bl.length + c) (bn_int f (at_ + 64)))))) (t + 8) (.inl (0, 129, .inl (upd fbi (bl.length + c) (bn_int f (at_ + 68)))))) (t + 7) = .inl (0, 129, .inl (upd ftm (bl.length + c) (bn_int f (at_ + 64)))) := hz_mne (va_up_self _ _ _) (by omega)
      have k8 : (va_up (va_up (va_up (va_up M (t + 5) (.inl (0, 129, .inl (upd fb (bl.length + c) (nI p))))) (t + 6) (.inl (0, 129, .inl (upd fht (bl.length + c) (nI (eH en p + 1)))))) (t + 7) (.inl (0, 129, .inl (upd ftm (bl.length + c) (bn_int f (at_ + 64)))))) (t + 8) (.inl (0, 129, .inl (upd fbi (bl.length + c) (bn_int f (at_ + 68)))))) (t + 8) = .inl (0, 129, .inl (upd fbi (bl.length + c) (bn_int f (at_ + 68)))) := va_up_self _ _ _
      have hf1 : frS [(t + 5, t + 9), (t + 12, t + 13)] M (va_up (va_up (va_up (va_up M (t + 5) (.inl (0, 129, .inl (upd fb (bl.length + c) (nI p))))) (t + 6) (.inl (0, 129, .inl (upd fht (bl.length + c) (nI (eH en p + 1)))))) (t + 7) (.inl (0, 129, .inl (upd ftm (bl.length + c) (bn_int f (at_ + 64)))))) (t + 8) (.inl (0, 129, .inl (upd fbi (bl.length + c) (bn_int f (at_ + 68)))))) := fun q hq => by simp only [outS, and_true] at hq; exact (va_up_ne _ _ (by omega)).trans ((va_up_ne _ _ (by omega)).trans ((va_up_ne _ _ (by omega)).trans (va_up_ne _ _ (by omega))))
      have hT1 := hTn.1
      generalize (va_up (va_up (va_up (va_up M (t + 5) (.inl (0, 129, .inl (upd fb (bl.length + c) (nI p))))) (t + 6) (.inl (0, 129, .inl (upd fht (bl.length + c) (nI (eH en p + 1)))))) (t + 7) (.inl (0, 129, .inl (upd ftm (bl.length + c) (bn_int f (at_ + 64)))))) (t + 8) (.inl (0, 129, .inl (upd fbi (bl.length + c) (bn_int f (at_ + 68)))))) = M1 at *
      refine hz_aloadn (pc := 45) 1 (hz_dec kX10_lend 24 rfl) rfl ?_
      refine hz_get (pc := 46) (hz_dec kX10_lend 25 rfl) fo_X10_31 hT1 (by omega) (by omega) rfl ?_
      refine hz_iload (pc := 49) 0 (hz_dec kX10_lend 26 rfl) rfl ?_
      refine hz_iald (pc := 51) (j := (bl.length) + c) (hz_dec kX10_lend 27 rfl) k7 (by omega) (by omega) rfl (by omega) (by omega) ?_
      refine hz_aloadn (pc := 52) 1 (hz_dec kX10_lend 28 rfl) rfl ?_
      refine hz_iloadn (pc := 53) 4 (hz_dec kX10_lend 29 rfl) rfl ?_
      refine hz_callV (pc := 54) (a := t) (As := [.int (nI p)]) (st := [.int ((upd ftm (bl.length + c) (bn_int f (at_ + 64))) ((bl.length) + c))]) (hz_dec kX10_lend 30 rfl) co_X10_110 im_X10_middleTime se_X10_middleTime rfl hT1 (by omega) (by omega) (c_mid hTn ht8 htz hp) rfl (by decide) ⟨Nat.le_refl _, Nat.le_refl _⟩ (Nat.le_of_ble_eq_true rfl) rfl (fun r9 z9 M2 hp9 => ?_)
      obtain ⟨rfl, rfl, fm2, rfl⟩ := hp9
      have hf2 : frS [(t + 5, t + 9), (t + 12, t + 13)] M1 (va_up M1 (t + 12) (.inl (0, 11, .inl fm2))) := fun q hq => by simp only [outS, and_true] at hq; exact va_up_ne _ _ (by omega)
      have hT2 := hTn.fm (M2 := va_up M1 (t + 12) (.inl (0, 11, .inl fm2))) (fun q q1 q2 => va_up_ne _ _ (by omega)) ⟨fm2, va_up_self _ _ _⟩
      have m5 : va_up M1 (t + 12) (.inl (0, 11, .inl fm2)) (t + 5) = .inl (0, 129, .inl (upd fb (bl.length + c) (nI p))) := (va_up_ne _ _ (by omega)).trans k5
      have m6 : va_up M1 (t + 12) (.inl (0, 11, .inl fm2)) (t + 6) = .inl (0, 129, .inl (upd fht (bl.length + c) (nI (eH en p + 1)))) := (va_up_ne _ _ (by omega)).trans k6
      have m7 : va_up M1 (t + 12) (.inl (0, 11, .inl fm2)) (t + 7) = .inl (0, 129, .inl (upd ftm (bl.length + c) (bn_int f (at_ + 64)))) := (va_up_ne _ _ (by omega)).trans k7
      have m8 : va_up M1 (t + 12) (.inl (0, 11, .inl fm2)) (t + 8) = .inl (0, 129, .inl (upd fbi (bl.length + c) (bn_int f (at_ + 68)))) := (va_up_ne _ _ (by omega)).trans k8
      have hw2 : ck_w (va_up M1 (t + 12) (.inl (0, 11, .inl fm2))) := hw.fs (fun q q1 q2 => (va_up_ne _ _ (by omega)).trans (hf1 q (by simp only [outS, and_true]; omega)))
      have hf12 : frS [(21, 22), (t + 5, t + 9), (t + 12, t + 13)] M (va_up M1 (t + 12) (.inl (0, 11, .inl fm2))) := (hf1.tr hf2).mono (fun q hq => by simp only [outS, and_true] at hq ⊢; omega)
      have hT20 := hT2.1
      clear hf2
      generalize va_up M1 (t + 12) (.inl (0, 11, .inl fm2)) = M2 at *
      have eu7 : ∀ x : Int32, upd ftm (bl.length + c) x (bl.length + c) = x := fun x => upd_s
      have eu8 : ∀ x : Int32, upd fbi (bl.length + c) x (bl.length + c) = x := fun x => upd_s
      refine hz_icmp_le (pc := 57) (tgt := 79) (hz_dec kX10_lend 31 rfl) (by decide) (fun h8 => ?_) (fun h8 => ?_)
      · skip
        rw [eu7, h64] at h8
        have ek : hhK en h p = false := decide_eq_false (fun q => absurd q.1 (Int32.not_lt.mpr h8))
        refine hz_iconst (pc := 79) (v := nI 0) (hz_dec kX10_lend 42 rfl) (by decide) ?_
        exact hz_zret (pc := 80) (hz_dec kX10_lend 43 rfl) rfl rfl ⟨by rw [ek]; rfl, rfl, hf12, hw2, hT2, fun w9 => trR.app hT2 (by omega) w9 m5 m6 m7 m8 (by rw [hen]; exact upd_s) (by rw [hen]; exact upd_s) (by rw [hen, upd_s]; exact h64) (by rw [hen, upd_s]; exact h68)⟩
      · skip
        rw [eu7, h64] at h8
        refine hz_aloadn (pc := 60) 1 (hz_dec kX10_lend 32 rfl) rfl ?_
        refine hz_get (pc := 61) (hz_dec kX10_lend 33 rfl) fo_X10_34 hT20 (by omega) (by omega) rfl ?_
        refine hz_iload (pc := 64) 0 (hz_dec kX10_lend 34 rfl) rfl ?_
        refine hz_iald (pc := 66) (j := (bl.length) + c) (hz_dec kX10_lend 35 rfl) m8 (by omega) (by omega) rfl (by omega) (by omega) ?_
        refine hz_aloadn (pc := 67) 1 (hz_dec kX10_lend 36 rfl) rfl ?_
        refine hz_iloadn (pc := 68) 4 (hz_dec kX10_lend 37 rfl) rfl ?_
        refine hz_callV (pc := 69) (a := t) (As := [.int (nI p)]) (st := [.int ((upd fbi (bl.length + c) (bn_int f (at_ + 68))) ((bl.length) + c))]) (hz_dec kX10_lend 38 rfl) co_X10_114 im_X10_dueBits se_X10_dueBits rfl hT20 (by omega) (by omega) (c_due hT2 ht8 htz hw2 hp) rfl (by decide) ⟨Nat.le_refl _, Nat.le_refl _⟩ (Nat.le_of_ble_eq_true rfl) rfl (fun r9 z9 M3 hp9 => ?_)
        obtain ⟨rfl, rfl, hf3, hw3⟩ := hp9
        have hT3 := hT2.fr (M2 := M3) (fun q q1 q2 => hf3.at1 (by omega))
        have n5 := (hf3.at1 (q := t + 5) (by omega)).trans m5
        have n6 := (hf3.at1 (q := t + 6) (by omega)).trans m6
        have n7 := (hf3.at1 (q := t + 7) (by omega)).trans m7
        have n8 := (hf3.at1 (q := t + 8) (by omega)).trans m8
        have hf13 := hf12.tr (hf3.mono (fun q hq => by simp only [outS, and_true] at hq ⊢; omega))
        refine hz_icmp_ne (pc := 72) (tgt := 79) (hz_dec kX10_lend 39 rfl) (by decide) (fun h9 => ?_) (fun h9 => ?_)
        · skip
          rw [eu8, h68] at h9
          have ek : hhK en h p = false := decide_eq_false (fun q => h9 q.2)
          refine hz_iconst (pc := 79) (v := nI 0) (hz_dec kX10_lend 42 rfl) (by decide) ?_
          exact hz_zret (pc := 80) (hz_dec kX10_lend 43 rfl) rfl rfl ⟨by rw [ek]; rfl, rfl, hf13, hw3, hT3, fun w9 => trR.app hT3 (by omega) w9 n5 n6 n7 n8 (by rw [hen]; exact upd_s) (by rw [hen]; exact upd_s) (by rw [hen, upd_s]; exact h64) (by rw [hen, upd_s]; exact h68)⟩
        · skip
          rw [eu8, h68] at h9
          have ek : hhK en h p = true := decide_eq_true ⟨Int32.not_le.mp h8, by first | exact h9 | exact Classical.byContradiction h9⟩
          refine hz_iconst (pc := 75) (v := nI 1) (hz_dec kX10_lend 40 rfl) (by decide) ?_
          refine hz_goto (pc := 76) (tgt := 80) (hz_dec kX10_lend 41 rfl) (by decide) ?_
          exact hz_zret (pc := 80) (hz_dec kX10_lend 43 rfl) rfl rfl ⟨by rw [ek]; rfl, rfl, hf13, hw3, hT3, fun w9 => trR.app hT3 (by omega) w9 n5 n6 n7 n8 (by rw [hen]; exact upd_s) (by rw [hen]; exact upd_s) (by rw [hen, upd_s]; exact h64) (by rw [hen, upd_s]; exact h68)⟩
    · skip
      exact absurd h6 (by omega)
