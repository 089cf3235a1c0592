/-! to tell all: tell, sendAll, tellAll -/
/-- the queue, and how many are gone -/
abbrev mq_S : Type := List ms_M × Int32
def sd1 (now fr to_ kd : Int32) (d : Nat) (t : by_L) (s : mq_S) : mq_S := (if sdR s.1 d t.length then s.1 ++ [(fr, to_, kd, now + nI d, t)] else s.1, if sdR s.1 d t.length then s.2 else s.2 + 1)
/-- to the first n nodes but one -/
def tlQ (dl : Nat → Nat) (now : Int32) (v : Nat) (but kd : Int32) (t : by_L) : Nat → mq_S → mq_S
  | 0, s => s
  | n + 1, s => if nI n = but ∨ dl (6 * v + n) = 0 then tlQ dl now v but kd t n s else sd1 now (nI v) (nI n) kd (dl (6 * v + n)) t (tlQ dl now v but kd t n s)
/-- the house: its parts, the tape's length, the tries -/
def hoO (tl : Nat) (tr : Int32) : va_E := .inr (11, [.ref 9, .ref 13, .ref 20, .ref 25, .ref 39, .ref 45, .ref 55, .ref 56, .int (nI tl), .int tr, .ref 57, .ref 58, .ref 61])
/-- the nodes -/
def nsR (M : hz_M) (nn : Nat) : Prop := ∃ f : Nat → Option Nat, M 55 = .inl (4, nn, .inr (.inr (.inr (.inr f)))) ∧ ∀ j, j < nn → f j = some (63 + 34 * j)
/-- the mail stands -/
def mlR (M : hz_M) (nn : Nat) (now : Int32) (s : mq_S) (dl : Nat → Nat) (ll : Nat) (fr kn : Int32) : Prop := M 45 = mlO nn now s.2 ll fr kn ∧ mlQ M s.1 ∧ mlD M dl
theorem mlR.fr {M M2 : hz_M} {nn : Nat} {now : Int32} {s : mq_S} {dl : Nat → Nat} {ll : Nat} {fr kn : Int32} (h : mlR M nn now s dl ll fr kn) (e : ∀ x, 45 ≤ x → x < 55 → ¬ x = 53 → M2 x = M x) : mlR M2 nn now s dl ll fr kn := by
  obtain ⟨h1, h2, fd, h3, h4⟩ := h
  exact ⟨(e 45 (by decide) (by decide) (by decide)).trans h1, h2.fr (fun x q1 q2 => e x (by omega) (by omega) (by omega)), fd, (e 54 (by decide) (by decide) (by decide)).trans h3, h4⟩
set_option maxHeartbeats 4000000 in
set_option maxRecDepth 100000 in
theorem c_tell_l {κ : hz_C} {z : Nat} {M0 : hz_M} (hz : 63 ≤ z) {tl : Nat} {tr : Int32} (hH : M0 8 = hoO tl tr) {nn : Nat} (hnn : nn ≤ 6) (hNs : nsR M0 nn) {now : Int32} {dl : Nat → Nat} {ll : Nat} {fr kn : Int32} {nb v : Nat} {up nx fu rc rf : Int32} (hN : M0 nb = ndO nb (nI v) up nx fu rc rf) (hnb : 63 ≤ nb) (hnbz : nb < z) (hvn : v < nn) {b n at_ : Nat} {f : Nat → Int32} {t : by_L} (hB : M0 b = .inl (1, n, .inl f)) (hb8 : 8 ≤ b) (hbz : b < z) (hbo : b < 45 ∨ 53 ≤ b) (hn : n < 2 ^ 24) (ht : isA f at_ t) (hat : at_ + t.length ≤ n) (hl4 : t.length ≤ 4000) {kd : Int32} {s0 : mq_S} : ∀ k i M, k = nn - i → i ≤ nn → frS [(45, 53)] M0 M → mlR M nn now (tlQ dl now v fr kd t i s0) dl ll fr kn → hz_W κ xX11_tell 3 0 0 (fun r z2 M2 => none = r ∧ z = z2 ∧ frS [(45, 53)] M0 M2 ∧ mlR M2 nn now (tlQ dl now v fr kd t nn s0) dl ll fr kn) 0 0 3 [(6, .int (nI i)), (0, .ref 8), (1, .ref nb), (2, .ref b), (3, .int (nI at_)), (4, .int (nI (t.length))), (5, .int kd)] [] z M := by
  intro k
  induction k using Nat.strongRecOn with
  | ind k ih =>
  intro i M hk hi hfr hml
  obtain ⟨fN, h55, hfN⟩ := id hNs
  have hH1 := (hfr.at1 (q := 8) (by omega)).trans hH
  have h551 := (hfr.at1 (q := 55) (by omega)).trans h55
  have hN1 := (hfr.at1 (q := nb) (by omega)).trans hN
  have hB1 := (hfr.at1 (q := b) (by omega)).trans hB
  generalize hs : tlQ dl now v fr kd t i s0 = s at hml
  obtain ⟨hO, hQ, hD⟩ := id hml
  refine hz_iload (pc := 3) 0 (hz_dec kX11_tell 2 rfl) rfl ?_
  refine hz_aloadn (pc := 5) 1 (hz_dec kX11_tell 3 rfl) rfl ?_
  refine hz_get (pc := 6) (hz_dec kX11_tell 4 rfl) fo_X11_68 hH1 (by omega) (by omega) rfl ?_
  refine hz_alen (pc := 9) (hz_dec kX11_tell 5 rfl) h551 (by decide) (by omega) (by omega) ?_
  refine hz_n_ge (pc := 10) (tgt := 70) (hz_dec kX11_tell 6 rfl) (by decide) (by omega) (by omega) (fun h1 => ?_) (fun h1 => ?_)
  · skip
    have e : i = nn := by omega
    exact hz_vret (pc := 70) (hz_dec kX11_tell 33 rfl) rfl ⟨rfl, rfl, hfr, by rw [show tlQ dl now v fr kd t nn s0 = s from e ▸ hs]; exact hml⟩
  · skip
    refine hz_iload (pc := 13) 0 (hz_dec kX11_tell 7 rfl) rfl ?_
    refine hz_aloadn (pc := 15) 1 (hz_dec kX11_tell 8 rfl) rfl ?_
    refine hz_get (pc := 16) (hz_dec kX11_tell 9 rfl) fo_X11_62 hH1 (by omega) (by omega) rfl ?_
    refine hz_get (pc := 19) (hz_dec kX11_tell 10 rfl) fo_X11_299 hO (by omega) (by omega) rfl ?_
    refine hz_icmp_eq (pc := 22) (tgt := 64) (hz_dec kX11_tell 11 rfl) (by decide) (fun h2 => ?_) (fun h2 => ?_)
    · skip
      refine hz_incN (pc := 64) (i := 6) (lo2 := [(6, .int (nI (i + 1))), (0, .ref 8), (1, .ref nb), (2, .ref b), (3, .int (nI at_)), (4, .int (nI (t.length))), (5, .int kd)]) 0 (hz_dec kX11_tell 31 rfl) rfl (by decide) rfl ?_
      refine hz_goto (pc := 67) (tgt := 3) (hz_dec kX11_tell 32 rfl) (by decide) ?_
      refine hz_pick (pc := 3) [0, 1, 2, 3, 4, 5, 6] rfl ?_
      refine ih (nn - (i + 1)) (by omega) (i + 1) M rfl (by omega) hfr ?_
      unfold tlQ
      rw [if_pos (Or.inl h2), hs]
      exact hml
    · skip
      refine hz_aloadn (pc := 25) 1 (hz_dec kX11_tell 12 rfl) rfl ?_
      refine hz_get (pc := 26) (hz_dec kX11_tell 13 rfl) fo_X11_62 hH1 (by omega) (by omega) rfl ?_
      refine hz_aloadn (pc := 29) 2 (hz_dec kX11_tell 14 rfl) rfl ?_
      refine hz_get (pc := 30) (hz_dec kX11_tell 15 rfl) fo_X11_514 hN1 (by omega) (by omega) rfl ?_
      refine hz_iload (pc := 33) 0 (hz_dec kX11_tell 16 rfl) rfl ?_
      refine hz_xV (pc := 35) (a := 45) (As := [.int (nI v), .int (nI i)]) (st := []) (hz_dec kX11_tell 17 rfl) co_X11_313 im_X5_delayOf se_X5_delayOf rfl hO (by omega) (by omega) (c_dly hz hO hnn hD hvn h1) rfl (by decide) ⟨Nat.le_refl _, Nat.le_refl _⟩ (Nat.le_of_ble_eq_true rfl) rfl ?_
      have hd9 : dl (6 * v + i) ≤ 9 := by obtain ⟨fd, -, hdX⟩ := id hD; exact (hdX _ (by omega)).2
      refine hz_z_ne (pc := 38) (tgt := 44) (hz_dec kX11_tell 18 rfl) (by decide) (by omega) (fun h3 => ?_) (fun h3 => ?_)
      · skip
        refine hz_aloadn (pc := 44) 1 (hz_dec kX11_tell 20 rfl) rfl ?_
        refine hz_get (pc := 45) (hz_dec kX11_tell 21 rfl) fo_X11_62 hH1 (by omega) (by omega) rfl ?_
        refine hz_aloadn (pc := 48) 2 (hz_dec kX11_tell 22 rfl) rfl ?_
        refine hz_get (pc := 49) (hz_dec kX11_tell 23 rfl) fo_X11_514 hN1 (by omega) (by omega) rfl ?_
        refine hz_iload (pc := 52) 0 (hz_dec kX11_tell 24 rfl) rfl ?_
        refine hz_iload (pc := 54) 6 (hz_dec kX11_tell 25 rfl) rfl ?_
        refine hz_aloadn (pc := 56) 3 (hz_dec kX11_tell 26 rfl) rfl ?_
        refine hz_iloadn (pc := 57) 4 (hz_dec kX11_tell 27 rfl) rfl ?_
        refine hz_iload (pc := 58) 5 (hz_dec kX11_tell 28 rfl) rfl ?_
        refine hz_callV (pc := 60) (a := 45) (As := [.int (nI v), .int (nI i), .int kd, .ref b, .int (nI at_), .int (nI (t.length))]) (st := []) (hz_dec kX11_tell 29 rfl) co_X11_309 im_X5_send se_X5_send rfl hO (by omega) (by omega) (c_send hz hO hnn hQ hB1 hb8 hbz hbo hn ht hat hl4 (c_dly hz hO hnn hD hvn h1) hd9) rfl (by decide) ⟨Nat.le_refl _, Nat.le_refl _⟩ (Nat.le_of_ble_eq_true rfl) rfl (fun r9 z9 M2 hp9 => ?_)
        obtain ⟨rfl, rfl, hf2, hO2, hQ2⟩ := hp9
        have hml2 : mlR M2 nn now (sd1 now (nI v) (nI i) kd (dl (6 * v + i)) t s) dl ll fr kn := ⟨hO2, hQ2, by obtain ⟨fd, q1, q2⟩ := id hD; exact ⟨fd, (hf2.at1 (q := 54) (by omega)).trans q1, q2⟩⟩
        refine hz_pop (pc := 63) (hz_dec kX11_tell 30 rfl) rfl ?_
        refine hz_incN (pc := 64) (i := 6) (lo2 := [(6, .int (nI (i + 1))), (0, .ref 8), (1, .ref nb), (2, .ref b), (3, .int (nI at_)), (4, .int (nI (t.length))), (5, .int kd)]) 0 (hz_dec kX11_tell 31 rfl) rfl (by decide) rfl ?_
        refine hz_goto (pc := 67) (tgt := 3) (hz_dec kX11_tell 32 rfl) (by decide) ?_
        refine hz_pick (pc := 3) [0, 1, 2, 3, 4, 5, 6] rfl ?_
        refine ih (nn - (i + 1)) (by omega) (i + 1) M2 rfl (by omega) (hfr.tr hf2) ?_
        unfold tlQ
        rw [if_neg (fun q => q.elim h2 (fun q => by omega)), hs]
        exact hml2
      · skip
        refine hz_goto (pc := 41) (tgt := 64) (hz_dec kX11_tell 19 rfl) (by decide) ?_
        refine hz_incN (pc := 64) (i := 6) (lo2 := [(6, .int (nI (i + 1))), (0, .ref 8), (1, .ref nb), (2, .ref b), (3, .int (nI at_)), (4, .int (nI (t.length))), (5, .int kd)]) 0 (hz_dec kX11_tell 31 rfl) rfl (by decide) rfl ?_
        refine hz_goto (pc := 67) (tgt := 3) (hz_dec kX11_tell 32 rfl) (by decide) ?_
        refine hz_pick (pc := 3) [0, 1, 2, 3, 4, 5, 6] rfl ?_
        refine ih (nn - (i + 1)) (by omega) (i + 1) M rfl (by omega) hfr ?_
        unfold tlQ
        rw [if_pos (Or.inr h3), hs]
        exact hml
set_option maxHeartbeats 4000000 in
set_option maxRecDepth 100000 in
theorem c_tell {κ : hz_C} {z : Nat} {M : hz_M} (hz : 63 ≤ z) {tl : Nat} {tr : Int32} (hH : M 8 = hoO tl tr) {nn : Nat} (hnn : nn ≤ 6) (hNs : nsR M nn) {now : Int32} {dl : Nat → Nat} {ll : Nat} {fr kn : Int32} {nb v : Nat} {up nx fu rc rf : Int32} (hN : M nb = ndO nb (nI v) up nx fu rc rf) (hnb : 63 ≤ nb) (hnbz : nb < z) (hvn : v < nn) {b n at_ : Nat} {f : Nat → Int32} {t : by_L} (hB : M b = .inl (1, n, .inl f)) (hb8 : 8 ≤ b) (hbz : b < z) (hbo : b < 45 ∨ 53 ≤ b) (hn : n < 2 ^ 24) (ht : isA f at_ t) (hat : at_ + t.length ≤ n) (hl4 : t.length ≤ 4000) {kd : Int32} {s0 : mq_S} (hml : mlR M nn now s0 dl ll fr kn) : hz_Mt κ xX11_tell 3 0 0 [.ref 8, .ref nb, .ref b, .int (nI at_), .int (nI t.length), .int kd] z M (fun r z2 M2 => none = r ∧ z = z2 ∧ frS [(45, 53)] M M2 ∧ mlR M2 nn now (tlQ dl now v fr kd t nn s0) dl ll fr kn) := by
  refine hz_ent (lo := [(0, .ref 8), (1, .ref nb), (2, .ref b), (3, .int (nI at_)), (4, .int (nI (t.length))), (5, .int kd)]) (by decide) (Nat.le_of_ble_eq_true rfl) rfl ?_
  refine hz_iconst (pc := 0) (v := nI 0) (hz_dec kX11_tell 0 rfl) (by decide) ?_
  refine hz_istore (pc := 1) (i := 6) (lo2 := [(6, .int (nI 0)), (0, .ref 8), (1, .ref nb), (2, .ref b), (3, .int (nI at_)), (4, .int (nI (t.length))), (5, .int kd)]) (hz_dec kX11_tell 1 rfl) (by decide) rfl ?_
  refine hz_pick (pc := 3) [0, 1, 2, 3, 4, 5, 6] rfl ?_
  exact c_tell_l hz hH hnn hNs hN hnb hnbz hvn hB hb8 hbz hbo hn ht hat hl4 nn 0 M rfl (by omega) frS.rf hml
set_option maxHeartbeats 4000000 in
set_option maxRecDepth 100000 in
theorem c_sAll_l {κ : hz_C} {z : Nat} {M0 : hz_M} {B : Nat} (hO_ : md_O M0 B) (hE0 : mdE M0 B) (h8 : 8 ≤ B) (hz : B + 88 ≤ z) {nn : Nat} (hnn : nn ≤ 6) (h10 : fdB M0 B 1 = some (.int (nI nn))) {now : Int32} {dl : Nat → Nat} (hD0 : mdD M0 B dl) {v : Nat} (hvn : v < nn) {r n at_ : Nat} {f : Nat → Int32} {t : by_L} (hB0 : M0 r = .inl (1, n, .inl f)) (hr8 : 8 ≤ r) (hrz : r < z) (hro : ∀ o ∈ (0 :: [70, 71, 72, 73, 74, 75, 76]), r ≠ B + o) (hn : n < 2 ^ 24) (ht : isA f at_ t) (hat : at_ + t.length ≤ n) (hl4 : t.length ≤ 4000) {but kd : Int32} {s0 : mq_S} : ∀ k i M, k = nn - i → i ≤ nn → mfr B [86, 87, 88] [70, 71, 72, 73, 74, 75, 76] M0 M → mdE M B → mqR M B (tlQ dl now v but kd t i s0).1 now (tlQ dl now v but kd t i s0).2 → hz_W κ xX12_sendAll 1 0 0 (fun rr z2 M2 => none = rr ∧ z = z2 ∧ mfr B [86, 87, 88] [70, 71, 72, 73, 74, 75, 76] M0 M2 ∧ mdE M2 B ∧ mqR M2 B (tlQ dl now v but kd t nn s0).1 now (tlQ dl now v but kd t nn s0).2) 0 0 3 [(7, .int (nI i)), (0, .ref B), (1, .int (nI v)), (2, .int but), (3, .int kd), (4, .ref r), (5, .int (nI at_)), (6, .int (nI (t.length)))] [] z M := by
  intro k
  induction k using Nat.strongRecOn with
  | ind k ih =>
  intro i M hk hi hfr hE hQ
  obtain ⟨fs, hO, hF⟩ := id hfr.2.1
  have g1 : fs[1]? = some (.int (nI nn)) := (fdB_of hO 1).symm.trans ((hfr.2.2 1 rfl).trans h10)
  have hD : mdD M B dl := by unfold mdD; rw [fA_m hfr (by decide) rfl]; exact hD0
  have hB : M r = .inl (1, n, .inl f) := (hfr.1 r hro).trans hB0
  generalize hs : tlQ dl now v but kd t i s0 = s at hQ
  refine hz_iload (pc := 3) 0 (hz_dec kX12_sendAll 2 rfl) rfl ?_
  refine hz_aloadn (pc := 5) 1 (hz_dec kX12_sendAll 3 rfl) rfl ?_
  refine hz_get (pc := 6) (v := .int (nI nn)) (hz_dec kX12_sendAll 4 rfl) fo_X12_289 hO h8 (by omega) g1 ?_
  refine hz_n_ge (pc := 9) (tgt := 55) (hz_dec kX12_sendAll 5 rfl) (by decide) (by omega) (by omega) (fun h1 => ?_) (fun h1 => ?_)
  · skip
    have e : i = nn := by omega
    exact hz_vret (pc := 55) (hz_dec kX12_sendAll 29 rfl) rfl ⟨rfl, rfl, hfr, hE, by rw [← e, hs]; exact hQ⟩
  · skip
    refine hz_iload (pc := 12) 0 (hz_dec kX12_sendAll 6 rfl) rfl ?_
    refine hz_iloadn (pc := 14) 3 (hz_dec kX12_sendAll 7 rfl) rfl ?_
    refine hz_icmp_eq (pc := 15) (tgt := 49) (hz_dec kX12_sendAll 8 rfl) (by decide) (fun h2 => ?_) (fun h2 => ?_)
    · skip
      refine hz_incN (pc := 49) (i := 7) (lo2 := [(7, .int (nI (i + 1))), (0, .ref B), (1, .int (nI v)), (2, .int but), (3, .int kd), (4, .ref r), (5, .int (nI at_)), (6, .int (nI (t.length)))]) 0 (hz_dec kX12_sendAll 27 rfl) rfl (by decide) rfl ?_
      refine hz_goto (pc := 52) (tgt := 3) (hz_dec kX12_sendAll 28 rfl) (by decide) ?_
      refine hz_pick (pc := 3) [0, 1, 2, 3, 4, 5, 6, 7] rfl ?_
      refine ih (nn - (i + 1)) (by omega) (i + 1) M rfl (by omega) hfr hE ?_
      unfold tlQ
      rw [if_pos (Or.inl h2), hs]
      exact hQ
    · skip
      have hd9 := (hD (6 * v + i) (by omega)).2
      refine hz_aloadn (pc := 18) 1 (hz_dec kX12_sendAll 9 rfl) rfl ?_
      refine hz_get (pc := 19) (v := .ref (B + 69)) (hz_dec kX12_sendAll 10 rfl) fo_X12_227 hO h8 (by omega) (hF.2 78 (by decide) (by decide)) ?_
      refine hz_bipush (pc := 22) (v := nI 6) (hz_dec kX12_sendAll 11 rfl) (by decide) ?_
      refine hz_iloadn (pc := 24) 2 (hz_dec kX12_sendAll 12 rfl) rfl ?_
      refine hz_mulN (pc := 25) (hz_dec kX12_sendAll 13 rfl) ?_
      refine hz_iload (pc := 26) 0 (hz_dec kX12_sendAll 14 rfl) rfl ?_
      refine hz_addN (pc := 28) (hz_dec kX12_sendAll 15 rfl) ?_
      refine hz_iald (pc := 29) (j := (6 * v) + i) (hz_dec kX12_sendAll 16 rfl) hE.a69 (by omega) (by omega) rfl (by omega) (by decide) ?_
      refine hz_eqi (pc := 30) (hD ((6 * v) + i) (by omega)).1 ?_
      refine hz_z_le (pc := 30) (tgt := 49) (hz_dec kX12_sendAll 17 rfl) (by decide) (by omega) (fun h3 => ?_) (fun h3 => ?_)
      · skip
        refine hz_incN (pc := 49) (i := 7) (lo2 := [(7, .int (nI (i + 1))), (0, .ref B), (1, .int (nI v)), (2, .int but), (3, .int kd), (4, .ref r), (5, .int (nI at_)), (6, .int (nI (t.length)))]) 0 (hz_dec kX12_sendAll 27 rfl) rfl (by decide) rfl ?_
        refine hz_goto (pc := 52) (tgt := 3) (hz_dec kX12_sendAll 28 rfl) (by decide) ?_
        refine hz_pick (pc := 3) [0, 1, 2, 3, 4, 5, 6, 7] rfl ?_
        refine ih (nn - (i + 1)) (by omega) (i + 1) M rfl (by omega) hfr hE ?_
        unfold tlQ
        rw [if_pos (Or.inr h3), hs]
        exact hQ
      · skip
        refine hz_aloadn (pc := 33) 1 (hz_dec kX12_sendAll 18 rfl) rfl ?_
        refine hz_iloadn (pc := 34) 2 (hz_dec kX12_sendAll 19 rfl) rfl ?_
        refine hz_iload (pc := 35) 0 (hz_dec kX12_sendAll 20 rfl) rfl ?_
        refine hz_iloadn (pc := 37) 4 (hz_dec kX12_sendAll 21 rfl) rfl ?_
        refine hz_aload (pc := 38) 5 (hz_dec kX12_sendAll 22 rfl) rfl ?_
        refine hz_iload (pc := 40) 6 (hz_dec kX12_sendAll 23 rfl) rfl ?_
        refine hz_iload (pc := 42) 7 (hz_dec kX12_sendAll 24 rfl) rfl ?_
        refine hz_callV (pc := 44) (a := B) (As := [.int (nI v), .int (nI i), .int kd, .ref r, .int (nI at_), .int (nI (t.length))]) (st := []) (hz_dec kX12_sendAll 25 rfl) co_X12_622 im_X12_send se_X12_send rfl hO h8 (by omega) (c_msend hfr.2.1 hE h8 hz hQ hD hB hr8 hrz hro hn ht hat hl4 (d := dl (6 * v + i)) (by omega) (Or.inl ⟨i, by omega, rfl, rfl⟩)) rfl (by decide) ⟨Nat.le_refl _, Nat.le_refl _⟩ (Nat.le_of_ble_eq_true rfl) rfl (fun r9 z9 M2 hp9 => ?_)
        obtain ⟨rfl, rfl, hf2, hE2, hQ2⟩ := hp9
        refine hz_istore (pc := 47) (i := 8) (lo2 := [(8, .int (hz_b (sdR s.1 (dl (6 * v + i)) t.length))), (7, .int (nI i)), (0, .ref B), (1, .int (nI v)), (2, .int but), (3, .int kd), (4, .ref r), (5, .int (nI at_)), (6, .int (nI (t.length)))]) (hz_dec kX12_sendAll 26 rfl) (by decide) rfl ?_
        refine hz_incN (pc := 49) (i := 7) (lo2 := [(7, .int (nI (i + 1))), (8, .int (hz_b (sdR s.1 (dl (6 * v + i)) t.length))), (0, .ref B), (1, .int (nI v)), (2, .int but), (3, .int kd), (4, .ref r), (5, .int (nI at_)), (6, .int (nI (t.length)))]) 1 (hz_dec kX12_sendAll 27 rfl) rfl (by decide) rfl ?_
        refine hz_goto (pc := 52) (tgt := 3) (hz_dec kX12_sendAll 28 rfl) (by decide) ?_
        refine hz_pick (pc := 3) [0, 2, 3, 4, 5, 6, 7, 8] rfl ?_
        refine ih (nn - (i + 1)) (by omega) (i + 1) M2 rfl (by omega) (hfr.tr hf2) hE2 ?_
        unfold tlQ
        rw [if_neg (fun q => q.elim h2 (fun q => by omega)), hs]
        exact hQ2
set_option maxHeartbeats 4000000 in
set_option maxRecDepth 100000 in
theorem c_sAll {κ : hz_C} {z : Nat} {M : hz_M} {B : Nat} (hO_ : md_O M B) (hE0 : mdE M B) (h8 : 8 ≤ B) (hz : B + 88 ≤ z) {nn : Nat} (hnn : nn ≤ 6) (h10 : fdB M B 1 = some (.int (nI nn))) {now : Int32} {dl : Nat → Nat} (hD0 : mdD M B dl) {v : Nat} (hvn : v < nn) {r n at_ : Nat} {f : Nat → Int32} {t : by_L} (hB0 : M r = .inl (1, n, .inl f)) (hr8 : 8 ≤ r) (hrz : r < z) (hro : ∀ o ∈ (0 :: [70, 71, 72, 73, 74, 75, 76]), r ≠ B + o) (hn : n < 2 ^ 24) (ht : isA f at_ t) (hat : at_ + t.length ≤ n) (hl4 : t.length ≤ 4000) {but kd : Int32} {s0 : mq_S} (hQ : mqR M B s0.1 now s0.2) : hz_Mt κ xX12_sendAll 1 0 0 [.ref B, .int (nI v), .int but, .int kd, .ref r, .int (nI at_), .int (nI t.length)] z M (fun rr z2 M2 => none = rr ∧ z = z2 ∧ mfr B [86, 87, 88] [70, 71, 72, 73, 74, 75, 76] M M2 ∧ mdE M2 B ∧ mqR M2 B (tlQ dl now v but kd t nn s0).1 now (tlQ dl now v but kd t nn s0).2) := by
  refine hz_ent (lo := [(0, .ref B), (1, .int (nI v)), (2, .int but), (3, .int kd), (4, .ref r), (5, .int (nI at_)), (6, .int (nI (t.length)))]) (by decide) (Nat.le_of_ble_eq_true rfl) rfl ?_
  refine hz_iconst (pc := 0) (v := nI 0) (hz_dec kX12_sendAll 0 rfl) (by decide) ?_
  refine hz_istore (pc := 1) (i := 7) (lo2 := [(7, .int (nI 0)), (0, .ref B), (1, .int (nI v)), (2, .int but), (3, .int kd), (4, .ref r), (5, .int (nI at_)), (6, .int (nI (t.length)))]) (hz_dec kX12_sendAll 1 rfl) (by decide) rfl ?_
  refine hz_pick (pc := 3) [0, 1, 2, 3, 4, 5, 6, 7] rfl ?_
  exact c_sAll_l hO_ hE0 h8 hz hnn h10 hD0 hvn hB0 hr8 hrz hro hn ht hat hl4 nn 0 M rfl (by omega) (mfr.rf hO_) hE0 hQ
set_option maxHeartbeats 4000000 in
set_option maxRecDepth 100000 in
theorem c_tAll {κ : hz_C} {z : Nat} {M : hz_M} {B : Nat} (hO_ : md_O M B) (hE0 : mdE M B) (h8 : 8 ≤ B) (hz : B + 88 ≤ z) {nn : Nat} (hnn : nn ≤ 6) (h10 : fdB M B 1 = some (.int (nI nn))) {now : Int32} {dl : Nat → Nat} (hD0 : mdD M B dl) {v tip x : Nat} (hvn : v < nn) {bl : List bk_B} (hnb : bl.length ≤ 128) (hNb : nbX (fA M B) (fL M B) v bl tip) (hx : x < bl.length) {but : Int32} {s0 : mq_S} (hQ : mqR M B s0.1 now s0.2) : hz_Mt κ xX12_tellAll 2 0 0 [.ref B, .int (nI v), .int (nI x), .int but] z M (fun rr z2 M2 => none = rr ∧ z = z2 ∧ mfr B [86, 87, 88] [70, 71, 72, 73, 74, 75, 76] M M2 ∧ mdE M2 B ∧ mqR M2 B (tlQ dl now v but (nI 1) (haS (bBy bl x)) nn s0).1 now (tlQ dl now v but (nI 1) (haS (bBy bl x)) nn s0).2) := by
  refine hz_ent (lo := [(0, .ref B), (1, .int (nI v)), (2, .int (nI x)), (3, .int but)]) (by decide) (Nat.le_of_ble_eq_true rfl) rfl ?_
  obtain ⟨fs, hO, hF⟩ := id hO_
  have hNx := (hNb.2.2 x hx).2.1
  have h32 := haS_len (bBy bl x)
  refine hz_aloadn (pc := 0) 0 (hz_dec kX12_tellAll 0 rfl) rfl ?_
  refine hz_iloadn (pc := 1) 1 (hz_dec kX12_tellAll 1 rfl) rfl ?_
  refine hz_iloadn (pc := 2) 3 (hz_dec kX12_tellAll 2 rfl) rfl ?_
  refine hz_iconst (pc := 3) (v := nI 1) (hz_dec kX12_tellAll 3 rfl) (by decide) ?_
  refine hz_aloadn (pc := 4) 0 (hz_dec kX12_tellAll 4 rfl) rfl ?_
  refine hz_get (pc := 5) (v := .ref (B + 30)) (hz_dec kX12_tellAll 5 rfl) fo_X12_101 hO h8 (by omega) (hF.2 32 (by decide) (by decide)) ?_
  refine hz_bipush (pc := 8) (v := nI 32) (hz_dec kX12_tellAll 6 rfl) (by decide) ?_
  refine hz_iloadn (pc := 10) 1 (hz_dec kX12_tellAll 7 rfl) rfl ?_
  refine hz_iloadn (pc := 11) 2 (hz_dec kX12_tellAll 8 rfl) rfl ?_
  refine hz_xS (pc := 12) (As := [.int (nI v), .int (nI x)]) (st := [.int (nI 32), .ref (B + 30), .int (nI 1), .int but, .int (nI v), .ref B]) (hz_dec kX12_tellAll 9 rfl) co_X12_419 sc_X12_at0 (c_at0) rfl (by decide) ⟨Nat.le_refl _, Nat.le_refl _⟩ (Nat.le_of_ble_eq_true rfl) rfl ?_
  refine hz_mulN (pc := 15) (hz_dec kX12_tellAll 10 rfl) ?_
  refine hz_bipush (pc := 16) (v := nI 32) (hz_dec kX12_tellAll 11 rfl) (by decide) ?_
  have qa := c_sAll (κ := κ) hO_ hE0 h8 hz hnn h10 hD0 hvn hE0.a30 (by omega) (by omega) (ne_off (by decide)) (by decide) hNx (by omega) (by omega) (but := but) (kd := nI 1) hQ
  rw [h32] at qa
  refine hz_callV (pc := 18) (a := B) (As := [.int (nI v), .int but, .int (nI 1), .ref (B + 30), .int (nI (32 * (128 * v + x))), .int (nI 32)]) (st := []) (hz_dec kX12_tellAll 12 rfl) co_X12_626 im_X12_sendAll se_X12_sendAll rfl hO h8 (by omega) (qa) rfl (by decide) ⟨Nat.le_refl _, Nat.le_refl _⟩ (Nat.le_of_ble_eq_true rfl) rfl (fun r9 z9 M2 hp9 => ?_)
  obtain ⟨rfl, rfl, hf2, hE2, hQ2⟩ := hp9
  exact hz_vret (pc := 21) (hz_dec kX12_tellAll 13 rfl) rfl ⟨rfl, rfl, hf2, hE2, hQ2⟩
