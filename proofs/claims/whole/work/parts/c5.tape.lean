/-! tape and draft -/
theorem isA_tk {f : Nat → Int32} {a n : Nat} {l : by_L} (h : isA f a l) : isA f a (l.take n) := isA_apl (b := l.drop n) (by rw [List.take_append_drop]; exact h)
theorem len_tk {l : by_L} {n : Nat} (h : n ≤ l.length) : (l.take n).length = n := by rw [List.length_take]; exact Nat.min_eq_left h
def trB (x b : Int32) : Int32 := (x ^^^ b).toInt8.toInt32.toInt8.toInt32
theorem trB_c (x b : Int32) : (x ^^^ b.toInt8.toInt32).toInt8.toInt32.toInt8.toInt32 = trB x b := by
  unfold trB
  simp only [Int32.toInt8_xor, Int8.toInt8_toInt32]
theorem isA_set {f : Nat → Int32} {l : by_L} {i : Nat} {x : Int32} (h : isA f 0 l) : isA (upd f i x) 0 (l.set i x) := by
  intro j hj
  rw [List.length_set] at hj
  have q := h j hj
  unfold lf at q ⊢
  rw [List.getD_eq_getElem?_getD] at q ⊢
  rw [Nat.zero_add] at q ⊢
  by_cases c : j = i
  · rw [c] at hj ⊢
    rw [upd_s, List.getElem?_set_self hj]; rfl
  · rw [upd_o c, List.getElem?_set_ne (fun e => c e.symm)]; exact q
def i4L (v : Int32) : by_L := [sb_b (byi v 0), sb_b (byi v 1), sb_b (byi v 2), sb_b (byi v 3)]
theorem i4_A {g : Nat → Int32} {a : Nat} {v : Int32} (h : ∀ j, j < 4 → g (a + j) = sb_b (byi v j)) : isA g a (i4L v) := by
  intro j hj
  have hj4 : j < 4 := hj
  rw [h j hj4]
  rcases (by omega : j = 0 ∨ j = 1 ∨ j = 2 ∨ j = 3) with c | c | c | c <;> rw [c] <;> rfl
theorem ap4 {f g : Nat → Int32} {T : by_L} {v : Int32} {n : Nat} (hT : isA f 0 T) (hn : T.length = n) (h1 : ∀ j, j < 4 → g (n + j) = sb_b (byi v j)) (h2 : ∀ q, q < n ∨ n + 4 ≤ q → g q = f q) : isA g 0 (T ++ i4L v) ∧ (T ++ i4L v).length = n + 4 := by
  refine ⟨isA_app (fun j hj => (h2 _ (by omega)).trans (hT j hj)) ?_, ?_⟩
  · rw [hn, Nat.zero_add]; exact i4_A h1
  · rw [List.length_append, hn]; rfl
def fdT (T : by_L) (a b c d e : Int32) : by_L := ((((T ++ i4L a) ++ i4L b) ++ i4L c) ++ i4L d) ++ i4L e
theorem fdT_len (T : by_L) (a b c d e : Int32) : (fdT T a b c d e).length = T.length + 20 := by
  unfold fdT
  simp only [List.length_append]
  rfl
set_option maxHeartbeats 4000000 in
set_option maxRecDepth 100000 in
theorem c_cut {κ : hz_C} {z : Nat} {M : hz_M} {H : ho_H} (hz : 63 + 34 * (hoN H).length ≤ z) (hnn : (hoN H).length ≤ 6) (hT4 : (hoT H).length ≤ 4000) {ll : Nat} {fr kn : Int32} (hR : hcR M z H ll fr kn) {k : Nat} (hk : k ≤ (hoT H).length) : hz_Mt κ xX11_cut 0 0 0 [.ref 8, .int (nI k)] z M (hcP M z H (.int (nI ((hoT H).length - k))) (hot H ((hoT H).take ((hoT H).length - k)) (hoE H))) := by
  refine hz_ent (lo := [(0, .ref 8), (1, .int (nI k))]) (by decide) (Nat.le_of_ble_eq_true rfl) rfl ?_
  have hH := hR.1
  have hNs := hR.2.1
  obtain ⟨hO, hQ, hD⟩ := id hR.2.2.2.2.1
  obtain ⟨g53, h53⟩ := hR.2.2.2.2.2.1
  have hJ := hR.2.2.2.1
  obtain ⟨g56, h56, hT56⟩ := hR.2.2.2.2.2.2.2.2.2.1
  have hdf := hR.2.2.2.2.2.2.2.2.2.2
  have hck : ck_k M z := hJ.2.2.2.2.2.2.2.1
  have hcs : ck_s M := hJ.2.2.2.2.2.2.2.2.1
  have hz63 : 63 ≤ z := by omega
  refine hz_iloadn (pc := 0) 1 (hz_dec kX11_cut 0 rfl) rfl ?_
  refine hz_z_lt (pc := 1) (tgt := 12) (hz_dec kX11_cut 1 rfl) (by decide) (by omega) ?_
  refine hz_iloadn (pc := 4) 1 (hz_dec kX11_cut 2 rfl) rfl ?_
  refine hz_aloadn (pc := 5) 0 (hz_dec kX11_cut 3 rfl) rfl ?_
  refine hz_get (pc := 6) (hz_dec kX11_cut 4 rfl) fo_X11_124 hH (by omega) (by omega) rfl ?_
  refine hz_n_le (pc := 9) (tgt := 14) (hz_dec kX11_cut 5 rfl) (by decide) (by omega) (by omega) (fun h2 => ?_) (fun h2 => ?_)
  · skip
    refine hz_aloadn (pc := 14) 0 (hz_dec kX11_cut 8 rfl) rfl ?_
    refine hz_dup (pc := 15) (hz_dec kX11_cut 9 rfl) rfl ?_
    refine hz_get (pc := 16) (hz_dec kX11_cut 10 rfl) fo_X11_124 hH (by omega) (by omega) rfl ?_
    refine hz_iloadn (pc := 19) 1 (hz_dec kX11_cut 11 rfl) rfl ?_
    refine hz_subN (pc := 20) (hz_dec kX11_cut 12 rfl) (by omega) ?_
    refine hz_puti (pc := 21) (hz_dec kX11_cut 13 rfl) fo_X11_124 ft_X11_8 hH (by omega) (by omega) (Nat.le_of_ble_eq_true rfl) ?_
    refine hz_mem (pc := 24) (M2 := (va_up M 8 (.inr (11, [.ref 9, .ref 13, .ref 20, .ref 25, .ref 39, .ref 45, .ref 55, .ref 56, .int (nI (((hoT H).length) - k)), .int (hoE H), .ref 57, .ref 58, .ref 61])))) rfl ?_
    refine hz_aloadn (pc := 24) 0 (hz_dec kX11_cut 14 rfl) rfl ?_
    refine hz_get (pc := 25) (hz_dec kX11_cut 15 rfl) fo_X11_124 (va_up_self _ _ _) (by omega) (by omega) rfl ?_
    have hl : ((hoT H).take ((hoT H).length - k)).length = (hoT H).length - k := len_tk (by omega)
    have hf : frS [(8, 9), (56, 57)] M (va_up M 8 (.inr (11, [.ref 9, .ref 13, .ref 20, .ref 25, .ref 39, .ref 45, .ref 55, .ref 56, .int (nI (((hoT H).length) - k)), .int (hoE H), .ref 57, .ref 58, .ref 61]))) := ((frS.rf (S := [(8, 9), (56, 57)])).upr (a := 8) (by simp only [outS, and_true]; omega))
    have hR2 : hcR (va_up M 8 (.inr (11, [.ref 9, .ref 13, .ref 20, .ref 25, .ref 39, .ref 45, .ref 55, .ref 56, .int (nI (((hoT H).length) - k)), .int (hoE H), .ref 57, .ref 58, .ref 61]))) z (hot H ((hoT H).take ((hoT H).length - k)) (hoE H)) ll fr kn := hR.t hf (by rw [hl]; exact va_up_self _ _ _) ⟨g56, hz_mne h56 (by decide), isA_tk hT56⟩
    exact hz_iret (pc := 28) (hz_dec kX11_cut 16 rfl) rfl ⟨rfl, rfl, (hf.mono (fun q (h9 : outS [(8, 63 + 34 * (hoN H).length)] q) => ⟨by have r := h9.1; omega, by have r := h9.1; omega, trivial⟩)), ll, fr, kn, hR2⟩
  · skip
    exact absurd hk (by omega)
set_option maxHeartbeats 4000000 in
set_option maxRecDepth 100000 in
theorem c_cutB {κ : hz_C} {z : Nat} {M : hz_M} {H : ho_H} (hz : 63 + 34 * (hoN H).length ≤ z) (hnn : (hoN H).length ≤ 6) (hT4 : (hoT H).length ≤ 4000) {ll : Nat} {fr kn : Int32} (hR : hcR M z H ll fr kn) {k : Int32} (hk : k < 0 ∨ ¬ k ≤ nI (hoT H).length) : hz_Mt κ xX11_cut 0 0 0 [.ref 8, .int k] z M (hcP M z H (.int (-1)) H) := by
  refine hz_ent (lo := [(0, .ref 8), (1, .int k)]) (by decide) (Nat.le_of_ble_eq_true rfl) rfl ?_
  have hH := hR.1
  have hNs := hR.2.1
  obtain ⟨hO, hQ, hD⟩ := id hR.2.2.2.2.1
  obtain ⟨g53, h53⟩ := hR.2.2.2.2.2.1
  have hJ := hR.2.2.2.1
  obtain ⟨g56, h56, hT56⟩ := hR.2.2.2.2.2.2.2.2.2.1
  have hdf := hR.2.2.2.2.2.2.2.2.2.2
  have hck : ck_k M z := hJ.2.2.2.2.2.2.2.1
  have hcs : ck_s M := hJ.2.2.2.2.2.2.2.2.1
  have hz63 : 63 ≤ z := by omega
  refine hz_iloadn (pc := 0) 1 (hz_dec kX11_cut 0 rfl) rfl ?_
  refine hz_if_lt (pc := 1) (tgt := 12) (hz_dec kX11_cut 1 rfl) (by decide) (fun h1 => ?_) (fun h1 => ?_)
  · skip
    refine hz_iconst (pc := 12) (v := (-1)) (hz_dec kX11_cut 6 rfl) (by decide) ?_
    exact hz_iret (pc := 13) (hz_dec kX11_cut 7 rfl) rfl (hcP.no hR _)
  · skip
    refine hz_iloadn (pc := 4) 1 (hz_dec kX11_cut 2 rfl) rfl ?_
    refine hz_aloadn (pc := 5) 0 (hz_dec kX11_cut 3 rfl) rfl ?_
    refine hz_get (pc := 6) (hz_dec kX11_cut 4 rfl) fo_X11_124 hH (by omega) (by omega) rfl ?_
    refine hz_icmp_le (pc := 9) (tgt := 14) (hz_dec kX11_cut 5 rfl) (by decide) (fun h2 => ?_) (fun h2 => ?_)
    · skip
      exact absurd h2 (hk.resolve_left h1)
    · skip
      refine hz_iconst (pc := 12) (v := (-1)) (hz_dec kX11_cut 6 rfl) (by decide) ?_
      exact hz_iret (pc := 13) (hz_dec kX11_cut 7 rfl) rfl (hcP.no hR _)
set_option maxHeartbeats 4000000 in
set_option maxRecDepth 100000 in
theorem c_rcut {κ : hz_C} {z B : Nat} {M : hz_M} {H : ho_H} (hnn : (hoN H).length ≤ 6) (hT4 : (hoT H).length ≤ 4000) (hR : hmR M z B H) {k : Nat} (hk : k ≤ (hoT H).length) : hz_Mt κ xX12_cut 0 0 0 [.ref B, .int (nI k)] z M (hmP M z B (.int (nI ((hoT H).length - k))) (hot H ((hoT H).take ((hoT H).length - k)) (hoE H))) := by
  refine hz_ent (lo := [(0, .ref B), (1, .int (nI k))]) (by decide) (Nat.le_of_ble_eq_true rfl) rfl ?_
  obtain ⟨hk0_, hE0, ⟨m1, m2, m3⟩, hNd, a5, a6, a7, a8⟩ := id hR
  obtain ⟨⟨fs, hO, hF⟩, -, -, h8, hz⟩ := id hk0_
  obtain ⟨x1, x3, x4, x5, x6, x7, x8⟩ := id m3
  refine hz_aloadn (pc := 0) 0 (hz_dec kX12_cut 0 rfl) rfl ?_
  refine hz_iconst (pc := 1) (v := nI 0) (hz_dec kX12_cut 1 rfl) (by decide) ?_
  refine hz_puti (pc := 2) (hz_dec kX12_cut 2 rfl) fo_X12_302 ft_X12_0 hO h8 (by omega) (by rw [hF.1]; decide) ?_
  have hf1 : mfr B [0, 89] [] M (va_up M B (.inr (12, (List.set fs 0 (.int (nI 0)))))) := (mfr.rf ⟨fs, hO, hF⟩).upO (k := 0) hO hF rfl rfl
  have hR1 : hmR (va_up M B (.inr (12, (List.set fs 0 (.int (nI 0)))))) z B H := hR.m0 hf1 hE0.upO ((fdB_of (va_up_self _ _ _) 89).trans ((List.getElem?_set_ne (by decide)).trans ((fdB_of hO 89).symm.trans x8)))
  generalize (va_up M B (.inr (12, (List.set fs 0 (.int (nI 0)))))) = M1 at *
  obtain ⟨hk1, hE1, ⟨n1, d1, q1⟩, hNd1, a51, a61, a71, a81⟩ := id hR1
  obtain ⟨⟨fs1, hO1, hF1⟩, -, -, -, -⟩ := id hk1
  have g95_1 : fs1[95]? = some (.int (nI ((hoT H).length))) := (fdB_of hO1 95).symm.trans a61
  have g103_1 : fs1[103]? = some (.int (hoE H)) := (fdB_of hO1 103).symm.trans a81
  refine hz_iloadn (pc := 5) 1 (hz_dec kX12_cut 3 rfl) rfl ?_
  refine hz_z_lt (pc := 6) (tgt := 17) (hz_dec kX12_cut 4 rfl) (by decide) (by omega) ?_
  refine hz_iloadn (pc := 9) 1 (hz_dec kX12_cut 5 rfl) rfl ?_
  refine hz_aloadn (pc := 10) 0 (hz_dec kX12_cut 6 rfl) rfl ?_
  refine hz_get (pc := 11) (v := .int (nI ((hoT H).length))) (hz_dec kX12_cut 7 rfl) fo_X12_679 hO1 h8 (by omega) g95_1 ?_
  refine hz_n_le (pc := 14) (tgt := 19) (hz_dec kX12_cut 8 rfl) (by decide) (by omega) (by omega) (fun h2 => ?_) (fun h2 => ?_)
  · skip
    refine hz_aloadn (pc := 19) 0 (hz_dec kX12_cut 11 rfl) rfl ?_
    refine hz_dup (pc := 20) (hz_dec kX12_cut 12 rfl) rfl ?_
    refine hz_get (pc := 21) (v := .int (nI ((hoT H).length))) (hz_dec kX12_cut 13 rfl) fo_X12_679 hO1 h8 (by omega) g95_1 ?_
    refine hz_iloadn (pc := 24) 1 (hz_dec kX12_cut 14 rfl) rfl ?_
    refine hz_subN (pc := 25) (hz_dec kX12_cut 15 rfl) (by omega) ?_
    refine hz_puti (pc := 26) (hz_dec kX12_cut 16 rfl) fo_X12_679 ft_X12_95 hO1 h8 (by omega) (by rw [hF1.1]; decide) ?_
    refine hz_aloadn (pc := 29) 0 (hz_dec kX12_cut 17 rfl) rfl ?_
    refine hz_get (pc := 30) (v := .int (nI (((hoT H).length) - k))) (hz_dec kX12_cut 18 rfl) fo_X12_679 (va_up_self _ _ _) h8 (by omega) (List.getElem?_set_self (by rw [hF1.1]; decide)) ?_
    have hl : ((hoT H).take ((hoT H).length - k)).length = (hoT H).length - k := len_tk (by omega)
    have hf2 : mfr B [95, 103] [80] M1 (va_up M1 B (.inr (12, (List.set fs1 95 (.int (nI (((hoT H).length) - k))))))) := ((mfr.rf (ks := [95, 103]) (os := [80]) hk1.1).upO (k := 95) hO1 hF1 rfl rfl)
    have hE2 : mdE (va_up M1 B (.inr (12, (List.set fs1 95 (.int (nI (((hoT H).length) - k))))))) B := (hE1.upO)
    have hR2 : hmR (va_up M1 B (.inr (12, (List.set fs1 95 (.int (nI (((hoT H).length) - k))))))) z B (hot H ((hoT H).take ((hoT H).length - k)) (hoE H)) := hR1.t hf2 hE2 (by rw [fA_c (va_up_ne _ _ (by omega))]; exact isA_tk a51) (by rw [hl]; exact (fdB_of (va_up_self _ _ _) 95).trans (List.getElem?_set_self (by rw [hF1.1]; decide))) ((fdB_of (va_up_self _ _ _) 103).trans ((List.getElem?_set_ne (by decide)).trans g103_1))
    exact hz_iret (pc := 33) (hz_dec kX12_cut 19 rfl) rfl ⟨rfl, rfl, (hf1.S rfl).tr (hf2.S rfl), hR2⟩
  · skip
    exact absurd hk (by omega)
set_option maxHeartbeats 4000000 in
set_option maxRecDepth 100000 in
theorem c_rcutB {κ : hz_C} {z B : Nat} {M : hz_M} {H : ho_H} (hnn : (hoN H).length ≤ 6) (hT4 : (hoT H).length ≤ 4000) (hR : hmR M z B H) {k : Int32} (hk : k < 0 ∨ ¬ k ≤ nI (hoT H).length) : hz_Mt κ xX12_cut 0 0 0 [.ref B, .int k] z M (hmP M z B (.int (-1)) H) := by
  refine hz_ent (lo := [(0, .ref B), (1, .int k)]) (by decide) (Nat.le_of_ble_eq_true rfl) rfl ?_
  obtain ⟨hk0_, hE0, ⟨m1, m2, m3⟩, hNd, a5, a6, a7, a8⟩ := id hR
  obtain ⟨⟨fs, hO, hF⟩, -, -, h8, hz⟩ := id hk0_
  obtain ⟨x1, x3, x4, x5, x6, x7, x8⟩ := id m3
  refine hz_aloadn (pc := 0) 0 (hz_dec kX12_cut 0 rfl) rfl ?_
  refine hz_iconst (pc := 1) (v := nI 0) (hz_dec kX12_cut 1 rfl) (by decide) ?_
  refine hz_puti (pc := 2) (hz_dec kX12_cut 2 rfl) fo_X12_302 ft_X12_0 hO h8 (by omega) (by rw [hF.1]; decide) ?_
  have hf1 : mfr B [0, 89] [] M (va_up M B (.inr (12, (List.set fs 0 (.int (nI 0)))))) := (mfr.rf ⟨fs, hO, hF⟩).upO (k := 0) hO hF rfl rfl
  have hR1 : hmR (va_up M B (.inr (12, (List.set fs 0 (.int (nI 0)))))) z B H := hR.m0 hf1 hE0.upO ((fdB_of (va_up_self _ _ _) 89).trans ((List.getElem?_set_ne (by decide)).trans ((fdB_of hO 89).symm.trans x8)))
  generalize (va_up M B (.inr (12, (List.set fs 0 (.int (nI 0)))))) = M1 at *
  obtain ⟨hk1, hE1, ⟨n1, d1, q1⟩, hNd1, a51, a61, a71, a81⟩ := id hR1
  obtain ⟨⟨fs1, hO1, hF1⟩, -, -, -, -⟩ := id hk1
  have g95_1 : fs1[95]? = some (.int (nI ((hoT H).length))) := (fdB_of hO1 95).symm.trans a61
  refine hz_iloadn (pc := 5) 1 (hz_dec kX12_cut 3 rfl) rfl ?_
  refine hz_if_lt (pc := 6) (tgt := 17) (hz_dec kX12_cut 4 rfl) (by decide) (fun h1 => ?_) (fun h1 => ?_)
  · skip
    refine hz_iconst (pc := 17) (v := (-1)) (hz_dec kX12_cut 9 rfl) (by decide) ?_
    exact hz_iret (pc := 18) (hz_dec kX12_cut 10 rfl) rfl ⟨rfl, rfl, hf1.S rfl, hR1⟩
  · skip
    refine hz_iloadn (pc := 9) 1 (hz_dec kX12_cut 5 rfl) rfl ?_
    refine hz_aloadn (pc := 10) 0 (hz_dec kX12_cut 6 rfl) rfl ?_
    refine hz_get (pc := 11) (v := .int (nI ((hoT H).length))) (hz_dec kX12_cut 7 rfl) fo_X12_679 hO1 h8 (by omega) g95_1 ?_
    refine hz_icmp_le (pc := 14) (tgt := 19) (hz_dec kX12_cut 8 rfl) (by decide) (fun h2 => ?_) (fun h2 => ?_)
    · skip
      exact absurd h2 (hk.resolve_left h1)
    · skip
      refine hz_iconst (pc := 17) (v := (-1)) (hz_dec kX12_cut 9 rfl) (by decide) ?_
      exact hz_iret (pc := 18) (hz_dec kX12_cut 10 rfl) rfl ⟨rfl, rfl, hf1.S rfl, hR1⟩
set_option maxHeartbeats 4000000 in
set_option maxRecDepth 100000 in
theorem c_turn {κ : hz_C} {z : Nat} {M : hz_M} {H : ho_H} (hz : 63 + 34 * (hoN H).length ≤ z) (hnn : (hoN H).length ≤ 6) (hT4 : (hoT H).length ≤ 4000) {ll : Nat} {fr kn : Int32} (hR : hcR M z H ll fr kn) {i : Nat} (hi : i < (hoT H).length) {b : Int32} : hz_Mt κ xX11_turn 0 0 0 [.ref 8, .int (nI i), .int b] z M (hcP M z H (.int (nI (bb (trB (lf (hoT H) i) b)))) (hot H ((hoT H).set i (trB (lf (hoT H) i) b)) (hoE H))) := by
  refine hz_ent (lo := [(0, .ref 8), (1, .int (nI i)), (2, .int b)]) (by decide) (Nat.le_of_ble_eq_true rfl) rfl ?_
  have hH := hR.1
  have hNs := hR.2.1
  obtain ⟨hO, hQ, hD⟩ := id hR.2.2.2.2.1
  obtain ⟨g53, h53⟩ := hR.2.2.2.2.2.1
  have hJ := hR.2.2.2.1
  obtain ⟨g56, h56, hT56⟩ := hR.2.2.2.2.2.2.2.2.2.1
  have hdf := hR.2.2.2.2.2.2.2.2.2.2
  have hck : ck_k M z := hJ.2.2.2.2.2.2.2.1
  have hcs : ck_s M := hJ.2.2.2.2.2.2.2.2.1
  have hz63 : 63 ≤ z := by omega
  have ei : g56 i = lf (hoT H) i := by have q := hT56 i hi; rw [Nat.zero_add] at q; exact q
  refine hz_iloadn (pc := 0) 1 (hz_dec kX11_turn 0 rfl) rfl ?_
  refine hz_z_lt (pc := 1) (tgt := 12) (hz_dec kX11_turn 1 rfl) (by decide) (by omega) ?_
  refine hz_iloadn (pc := 4) 1 (hz_dec kX11_turn 2 rfl) rfl ?_
  refine hz_aloadn (pc := 5) 0 (hz_dec kX11_turn 3 rfl) rfl ?_
  refine hz_get (pc := 6) (hz_dec kX11_turn 4 rfl) fo_X11_124 hH (by omega) (by omega) rfl ?_
  refine hz_n_lt (pc := 9) (tgt := 14) (hz_dec kX11_turn 5 rfl) (by decide) (by omega) (by omega) (fun h2 => ?_) (fun h2 => ?_)
  · skip
    refine hz_aloadn (pc := 14) 0 (hz_dec kX11_turn 8 rfl) rfl ?_
    refine hz_get (pc := 15) (hz_dec kX11_turn 9 rfl) fo_X11_72 hH (by omega) (by omega) rfl ?_
    refine hz_iloadn (pc := 18) 1 (hz_dec kX11_turn 10 rfl) rfl ?_
    refine hz_dup2 (pc := 19) (hz_dec kX11_turn 11 rfl) rfl rfl ?_
    refine hz_bald (pc := 20) (j := i) (hz_dec kX11_turn 12 rfl) h56 (by omega) (by omega) rfl (by omega) (by decide) ?_
    refine hz_eqi (pc := 21) ei ?_
    refine hz_iloadn (pc := 21) 2 (hz_dec kX11_turn 13 rfl) rfl ?_
    refine hz_i2b (pc := 22) (hz_dec kX11_turn 14 rfl) ?_
    refine hz_ixor (pc := 23) (hz_dec kX11_turn 15 rfl) ?_
    refine hz_i2b (pc := 24) (hz_dec kX11_turn 16 rfl) ?_
    refine hz_bast (pc := 25) (j := i) (hz_dec kX11_turn 17 rfl) h56 (by omega) (by omega) rfl (by omega) (by decide) ?_
    refine hz_mem (pc := 26) (M2 := (va_up M 56 (.inl (1, 4000, .inl (upd g56 i (trB (lf (hoT H) i) b)))))) (by rw [trB_c]) ?_
    refine hz_aloadn (pc := 26) 0 (hz_dec kX11_turn 18 rfl) rfl ?_
    refine hz_get (pc := 27) (hz_dec kX11_turn 19 rfl) fo_X11_72 (hz_mne hH (by omega)) (by omega) (by omega) rfl ?_
    refine hz_iloadn (pc := 30) 1 (hz_dec kX11_turn 20 rfl) rfl ?_
    refine hz_bald (pc := 31) (j := i) (hz_dec kX11_turn 21 rfl) (va_up_self _ _ _) (by omega) (by omega) rfl (by omega) (by decide) ?_
    refine hz_eqi (pc := 32) upd_s ?_
    refine hz_sipush (pc := 32) (v := nI 255) (hz_dec kX11_turn 22 rfl) (by decide) ?_
    refine hz_andB (pc := 35) (hz_dec kX11_turn 23 rfl) ?_
    have hf : frS [(8, 9), (56, 57)] M (va_up M 56 (.inl (1, 4000, .inl (upd g56 i (trB (lf (hoT H) i) b))))) := ((frS.rf (S := [(8, 9), (56, 57)])).upr (a := 56) (by simp only [outS, and_true]; omega))
    have hR2 : hcR (va_up M 56 (.inl (1, 4000, .inl (upd g56 i (trB (lf (hoT H) i) b))))) z (hot H ((hoT H).set i (trB (lf (hoT H) i) b)) (hoE H)) ll fr kn := hR.t hf (by rw [List.length_set]; exact hz_mne hH (by decide)) ⟨_, va_up_self _ _ _, isA_set hT56⟩
    exact hz_iret (pc := 36) (hz_dec kX11_turn 24 rfl) rfl ⟨rfl, rfl, (hf.mono (fun q (h9 : outS [(8, 63 + 34 * (hoN H).length)] q) => ⟨by have r := h9.1; omega, by have r := h9.1; omega, trivial⟩)), ll, fr, kn, hR2⟩
  · skip
    exact absurd hi (by omega)
set_option maxHeartbeats 4000000 in
set_option maxRecDepth 100000 in
theorem c_turnB {κ : hz_C} {z : Nat} {M : hz_M} {H : ho_H} (hz : 63 + 34 * (hoN H).length ≤ z) (hnn : (hoN H).length ≤ 6) (hT4 : (hoT H).length ≤ 4000) {ll : Nat} {fr kn : Int32} (hR : hcR M z H ll fr kn) {i b : Int32} (hi : i < 0 ∨ ¬ i < nI (hoT H).length) : hz_Mt κ xX11_turn 0 0 0 [.ref 8, .int i, .int b] z M (hcP M z H (.int (-1)) H) := by
  refine hz_ent (lo := [(0, .ref 8), (1, .int i), (2, .int b)]) (by decide) (Nat.le_of_ble_eq_true rfl) rfl ?_
  have hH := hR.1
  have hNs := hR.2.1
  obtain ⟨hO, hQ, hD⟩ := id hR.2.2.2.2.1
  obtain ⟨g53, h53⟩ := hR.2.2.2.2.2.1
  have hJ := hR.2.2.2.1
  obtain ⟨g56, h56, hT56⟩ := hR.2.2.2.2.2.2.2.2.2.1
  have hdf := hR.2.2.2.2.2.2.2.2.2.2
  have hck : ck_k M z := hJ.2.2.2.2.2.2.2.1
  have hcs : ck_s M := hJ.2.2.2.2.2.2.2.2.1
  have hz63 : 63 ≤ z := by omega
  refine hz_iloadn (pc := 0) 1 (hz_dec kX11_turn 0 rfl) rfl ?_
  refine hz_if_lt (pc := 1) (tgt := 12) (hz_dec kX11_turn 1 rfl) (by decide) (fun h1 => ?_) (fun h1 => ?_)
  · skip
    refine hz_iconst (pc := 12) (v := (-1)) (hz_dec kX11_turn 6 rfl) (by decide) ?_
    exact hz_iret (pc := 13) (hz_dec kX11_turn 7 rfl) rfl (hcP.no hR _)
  · skip
    refine hz_iloadn (pc := 4) 1 (hz_dec kX11_turn 2 rfl) rfl ?_
    refine hz_aloadn (pc := 5) 0 (hz_dec kX11_turn 3 rfl) rfl ?_
    refine hz_get (pc := 6) (hz_dec kX11_turn 4 rfl) fo_X11_124 hH (by omega) (by omega) rfl ?_
    refine hz_icmp_lt (pc := 9) (tgt := 14) (hz_dec kX11_turn 5 rfl) (by decide) (fun h2 => ?_) (fun h2 => ?_)
    · skip
      exact absurd h2 (hi.resolve_left h1)
    · skip
      refine hz_iconst (pc := 12) (v := (-1)) (hz_dec kX11_turn 6 rfl) (by decide) ?_
      exact hz_iret (pc := 13) (hz_dec kX11_turn 7 rfl) rfl (hcP.no hR _)
set_option maxHeartbeats 4000000 in
set_option maxRecDepth 100000 in
theorem c_rturn {κ : hz_C} {z B : Nat} {M : hz_M} {H : ho_H} (hnn : (hoN H).length ≤ 6) (hT4 : (hoT H).length ≤ 4000) (hR : hmR M z B H) {i : Nat} (hi : i < (hoT H).length) {b : Int32} : hz_Mt κ xX12_turn 0 0 0 [.ref B, .int (nI i), .int b] z M (hmP M z B (.int (nI (bb (trB (lf (hoT H) i) b)))) (hot H ((hoT H).set i (trB (lf (hoT H) i) b)) (hoE H))) := by
  refine hz_ent (lo := [(0, .ref B), (1, .int (nI i)), (2, .int b)]) (by decide) (Nat.le_of_ble_eq_true rfl) rfl ?_
  obtain ⟨hk0_, hE0, ⟨m1, m2, m3⟩, hNd, a5, a6, a7, a8⟩ := id hR
  obtain ⟨⟨fs, hO, hF⟩, -, -, h8, hz⟩ := id hk0_
  obtain ⟨x1, x3, x4, x5, x6, x7, x8⟩ := id m3
  refine hz_aloadn (pc := 0) 0 (hz_dec kX12_turn 0 rfl) rfl ?_
  refine hz_iconst (pc := 1) (v := nI 0) (hz_dec kX12_turn 1 rfl) (by decide) ?_
  refine hz_puti (pc := 2) (hz_dec kX12_turn 2 rfl) fo_X12_302 ft_X12_0 hO h8 (by omega) (by rw [hF.1]; decide) ?_
  have hf1 : mfr B [0, 89] [] M (va_up M B (.inr (12, (List.set fs 0 (.int (nI 0)))))) := (mfr.rf ⟨fs, hO, hF⟩).upO (k := 0) hO hF rfl rfl
  have hR1 : hmR (va_up M B (.inr (12, (List.set fs 0 (.int (nI 0)))))) z B H := hR.m0 hf1 hE0.upO ((fdB_of (va_up_self _ _ _) 89).trans ((List.getElem?_set_ne (by decide)).trans ((fdB_of hO 89).symm.trans x8)))
  generalize (va_up M B (.inr (12, (List.set fs 0 (.int (nI 0)))))) = M1 at *
  obtain ⟨hk1, hE1, ⟨n1, d1, q1⟩, hNd1, a51, a61, a71, a81⟩ := id hR1
  obtain ⟨⟨fs1, hO1, hF1⟩, -, -, -, -⟩ := id hk1
  have g95_1 : fs1[95]? = some (.int (nI ((hoT H).length))) := (fdB_of hO1 95).symm.trans a61
  have g103_1 : fs1[103]? = some (.int (hoE H)) := (fdB_of hO1 103).symm.trans a81
  have ei : fA M1 B 80 i = lf (hoT H) i := by have q := a51 i hi; rw [Nat.zero_add] at q; exact q
  refine hz_iloadn (pc := 5) 1 (hz_dec kX12_turn 3 rfl) rfl ?_
  refine hz_z_lt (pc := 6) (tgt := 17) (hz_dec kX12_turn 4 rfl) (by decide) (by omega) ?_
  refine hz_iloadn (pc := 9) 1 (hz_dec kX12_turn 5 rfl) rfl ?_
  refine hz_aloadn (pc := 10) 0 (hz_dec kX12_turn 6 rfl) rfl ?_
  refine hz_get (pc := 11) (v := .int (nI ((hoT H).length))) (hz_dec kX12_turn 7 rfl) fo_X12_679 hO1 h8 (by omega) g95_1 ?_
  refine hz_n_lt (pc := 14) (tgt := 19) (hz_dec kX12_turn 8 rfl) (by decide) (by omega) (by omega) (fun h2 => ?_) (fun h2 => ?_)
  · skip
    refine hz_aloadn (pc := 19) 0 (hz_dec kX12_turn 11 rfl) rfl ?_
    refine hz_get (pc := 20) (v := .ref (B + 80)) (hz_dec kX12_turn 12 rfl) fo_X12_261 hO1 h8 (by omega) (hF1.2 94 (by decide) (by decide)) ?_
    refine hz_iloadn (pc := 23) 1 (hz_dec kX12_turn 13 rfl) rfl ?_
    refine hz_aloadn (pc := 24) 0 (hz_dec kX12_turn 14 rfl) rfl ?_
    refine hz_get (pc := 25) (v := .ref (B + 80)) (hz_dec kX12_turn 15 rfl) fo_X12_261 hO1 h8 (by omega) (hF1.2 94 (by decide) (by decide)) ?_
    refine hz_iloadn (pc := 28) 1 (hz_dec kX12_turn 16 rfl) rfl ?_
    refine hz_bald (pc := 29) (j := i) (hz_dec kX12_turn 17 rfl) hE1.a80 (by omega) (by omega) rfl (by omega) (by decide) ?_
    refine hz_eqi (pc := 30) ei ?_
    refine hz_iloadn (pc := 30) 2 (hz_dec kX12_turn 18 rfl) rfl ?_
    refine hz_ixor (pc := 31) (hz_dec kX12_turn 19 rfl) ?_
    refine hz_i2b (pc := 32) (hz_dec kX12_turn 20 rfl) ?_
    refine hz_bast (pc := 33) (j := i) (hz_dec kX12_turn 21 rfl) hE1.a80 (by omega) (by omega) rfl (by omega) (by decide) ?_
    refine hz_mem (pc := 34) (M2 := (va_up M1 (B + 80) (.inl (1, 4000, .inl (upd (fA M1 B 80) i (trB (lf (hoT H) i) b)))))) rfl ?_
    refine hz_aloadn (pc := 34) 0 (hz_dec kX12_turn 22 rfl) rfl ?_
    refine hz_get (pc := 35) (v := .ref (B + 80)) (hz_dec kX12_turn 23 rfl) fo_X12_261 (hz_mne hO1 (by omega)) h8 (by omega) (hF1.2 94 (by decide) (by decide)) ?_
    refine hz_iloadn (pc := 38) 1 (hz_dec kX12_turn 24 rfl) rfl ?_
    refine hz_bald (pc := 39) (j := i) (hz_dec kX12_turn 25 rfl) (va_up_self _ _ _) (by omega) (by omega) rfl (by omega) (by decide) ?_
    refine hz_eqi (pc := 40) upd_s ?_
    refine hz_sipush (pc := 40) (v := nI 255) (hz_dec kX12_turn 26 rfl) (by decide) ?_
    refine hz_andB (pc := 43) (hz_dec kX12_turn 27 rfl) ?_
    have hf2 : mfr B [95, 103] [80] M1 (va_up M1 (B + 80) (.inl (1, 4000, .inl (upd (fA M1 B 80) i (trB (lf (hoT H) i) b))))) := ((mfr.rf (ks := [95, 103]) (os := [80]) hk1.1).upA (o := 80) rfl (by decide))
    have hE2 : mdE (va_up M1 (B + 80) (.inl (1, 4000, .inl (upd (fA M1 B 80) i (trB (lf (hoT H) i) b))))) B := (hE1.upA (k := 80) (t := 1) (n := 4000) (by decide))
    have hR2 : hmR (va_up M1 (B + 80) (.inl (1, 4000, .inl (upd (fA M1 B 80) i (trB (lf (hoT H) i) b))))) z B (hot H ((hoT H).set i (trB (lf (hoT H) i) b)) (hoE H)) := hR1.t hf2 hE2 (by rw [fA_of (va_up_self _ _ _)]; exact isA_set a51) (by rw [List.length_set]; exact (fdB_of (hz_mne hO1 (by omega)) 95).trans g95_1) ((fdB_of (hz_mne hO1 (by omega)) 103).trans g103_1)
    exact hz_iret (pc := 44) (hz_dec kX12_turn 28 rfl) rfl ⟨rfl, rfl, (hf1.S rfl).tr (hf2.S rfl), hR2⟩
  · skip
    exact absurd hi (by omega)
set_option maxHeartbeats 4000000 in
set_option maxRecDepth 100000 in
theorem c_rturnB {κ : hz_C} {z B : Nat} {M : hz_M} {H : ho_H} (hnn : (hoN H).length ≤ 6) (hT4 : (hoT H).length ≤ 4000) (hR : hmR M z B H) {i b : Int32} (hi : i < 0 ∨ ¬ i < nI (hoT H).length) : hz_Mt κ xX12_turn 0 0 0 [.ref B, .int i, .int b] z M (hmP M z B (.int (-1)) H) := by
  refine hz_ent (lo := [(0, .ref B), (1, .int i), (2, .int b)]) (by decide) (Nat.le_of_ble_eq_true rfl) rfl ?_
  obtain ⟨hk0_, hE0, ⟨m1, m2, m3⟩, hNd, a5, a6, a7, a8⟩ := id hR
  obtain ⟨⟨fs, hO, hF⟩, -, -, h8, hz⟩ := id hk0_
  obtain ⟨x1, x3, x4, x5, x6, x7, x8⟩ := id m3
  refine hz_aloadn (pc := 0) 0 (hz_dec kX12_turn 0 rfl) rfl ?_
  refine hz_iconst (pc := 1) (v := nI 0) (hz_dec kX12_turn 1 rfl) (by decide) ?_
  refine hz_puti (pc := 2) (hz_dec kX12_turn 2 rfl) fo_X12_302 ft_X12_0 hO h8 (by omega) (by rw [hF.1]; decide) ?_
  have hf1 : mfr B [0, 89] [] M (va_up M B (.inr (12, (List.set fs 0 (.int (nI 0)))))) := (mfr.rf ⟨fs, hO, hF⟩).upO (k := 0) hO hF rfl rfl
  have hR1 : hmR (va_up M B (.inr (12, (List.set fs 0 (.int (nI 0)))))) z B H := hR.m0 hf1 hE0.upO ((fdB_of (va_up_self _ _ _) 89).trans ((List.getElem?_set_ne (by decide)).trans ((fdB_of hO 89).symm.trans x8)))
  generalize (va_up M B (.inr (12, (List.set fs 0 (.int (nI 0)))))) = M1 at *
  obtain ⟨hk1, hE1, ⟨n1, d1, q1⟩, hNd1, a51, a61, a71, a81⟩ := id hR1
  obtain ⟨⟨fs1, hO1, hF1⟩, -, -, -, -⟩ := id hk1
  have g95_1 : fs1[95]? = some (.int (nI ((hoT H).length))) := (fdB_of hO1 95).symm.trans a61
  refine hz_iloadn (pc := 5) 1 (hz_dec kX12_turn 3 rfl) rfl ?_
  refine hz_if_lt (pc := 6) (tgt := 17) (hz_dec kX12_turn 4 rfl) (by decide) (fun h1 => ?_) (fun h1 => ?_)
  · skip
    refine hz_iconst (pc := 17) (v := (-1)) (hz_dec kX12_turn 9 rfl) (by decide) ?_
    exact hz_iret (pc := 18) (hz_dec kX12_turn 10 rfl) rfl ⟨rfl, rfl, hf1.S rfl, hR1⟩
  · skip
    refine hz_iloadn (pc := 9) 1 (hz_dec kX12_turn 5 rfl) rfl ?_
    refine hz_aloadn (pc := 10) 0 (hz_dec kX12_turn 6 rfl) rfl ?_
    refine hz_get (pc := 11) (v := .int (nI ((hoT H).length))) (hz_dec kX12_turn 7 rfl) fo_X12_679 hO1 h8 (by omega) g95_1 ?_
    refine hz_icmp_lt (pc := 14) (tgt := 19) (hz_dec kX12_turn 8 rfl) (by decide) (fun h2 => ?_) (fun h2 => ?_)
    · skip
      exact absurd h2 (hi.resolve_left h1)
    · skip
      refine hz_iconst (pc := 17) (v := (-1)) (hz_dec kX12_turn 9 rfl) (by decide) ?_
      exact hz_iret (pc := 18) (hz_dec kX12_turn 10 rfl) rfl ⟨rfl, rfl, hf1.S rfl, hR1⟩
set_option maxHeartbeats 4000000 in
set_option maxRecDepth 100000 in
theorem c_feed {κ : hz_C} {z : Nat} {M : hz_M} {H : ho_H} (hz : 63 + 34 * (hoN H).length ≤ z) (hnn : (hoN H).length ≤ 6) (hT4 : (hoT H).length ≤ 4000) {ll : Nat} {fr kn : Int32} (hR : hcR M z H ll fr kn) {a b c d e : Int32} (hk : (hoT H).length ≤ 3980) : hz_Mt κ xX11_feed 1 0 0 [.ref 8, .int a, .int b, .int c, .int d, .int e] z M (hcP M z H (.int (nI ((hoT H).length + 20))) (hot H (fdT (hoT H) a b c d e) (hoE H))) := by
  refine hz_ent (lo := [(0, .ref 8), (1, .int a), (2, .int b), (3, .int c), (4, .int d), (5, .int e)]) (by decide) (Nat.le_of_ble_eq_true rfl) rfl ?_
  have hH := hR.1
  have hNs := hR.2.1
  obtain ⟨hO, hQ, hD⟩ := id hR.2.2.2.2.1
  obtain ⟨g53, h53⟩ := hR.2.2.2.2.2.1
  have hJ := hR.2.2.2.1
  obtain ⟨g56, h56, hT56⟩ := hR.2.2.2.2.2.2.2.2.2.1
  have hdf := hR.2.2.2.2.2.2.2.2.2.2
  have hck : ck_k M z := hJ.2.2.2.2.2.2.2.1
  have hcs : ck_s M := hJ.2.2.2.2.2.2.2.2.1
  have hz63 : 63 ≤ z := by omega
  refine hz_aloadn (pc := 0) 0 (hz_dec kX11_feed 0 rfl) rfl ?_
  refine hz_get (pc := 1) (hz_dec kX11_feed 1 rfl) fo_X11_124 hH (by omega) (by omega) rfl ?_
  refine hz_sipush (pc := 4) (v := nI 3980) (hz_dec kX11_feed 2 rfl) (by decide) ?_
  refine hz_n_le (pc := 7) (tgt := 13) (hz_dec kX11_feed 3 rfl) (by decide) (by omega) (by omega) (fun h1 => ?_) (fun h1 => ?_)
  · skip
    refine hz_aloadn (pc := 13) 0 (hz_dec kX11_feed 6 rfl) rfl ?_
    refine hz_get (pc := 14) (hz_dec kX11_feed 7 rfl) fo_X11_72 hH (by omega) (by omega) rfl ?_
    refine hz_aloadn (pc := 17) 0 (hz_dec kX11_feed 8 rfl) rfl ?_
    refine hz_get (pc := 18) (hz_dec kX11_feed 9 rfl) fo_X11_124 hH (by omega) (by omega) rfl ?_
    refine hz_iloadn (pc := 21) 1 (hz_dec kX11_feed 10 rfl) rfl ?_
    refine hz_i2l (pc := 22) (hz_dec kX11_feed 11 rfl) ?_
    refine hz_iconst (pc := 23) (v := nI 4) (hz_dec kX11_feed 12 rfl) (by decide) ?_
    refine hz_xS (pc := 24) (As := [.ref 56, .int (nI ((hoT H).length)), .long (a).toInt64, .int (nI 4)]) (st := []) (hz_dec kX11_feed 13 rfl) co_X11_127 sc_X0_put (c_put (at_ := (hoT H).length) (mn := 4) (v := a.toInt64) h56 (by decide) (by omega) (by decide) (by omega)) rfl (by decide) ⟨Nat.le_refl _, Nat.le_refl _⟩ (Nat.le_of_ble_eq_true rfl) rfl ?_
    refine hz_mem (pc := 27) (M2 := (va_up M 56 (.inl (1, 4000, .inl (bn_put ((hoT H).length) 4 a.toInt64 (g56)))))) rfl ?_
    refine hz_aloadn (pc := 27) 0 (hz_dec kX11_feed 14 rfl) rfl ?_
    refine hz_get (pc := 28) (hz_dec kX11_feed 15 rfl) fo_X11_72 (hz_mne hH (by omega)) (by omega) (by omega) rfl ?_
    refine hz_aloadn (pc := 31) 0 (hz_dec kX11_feed 16 rfl) rfl ?_
    refine hz_get (pc := 32) (hz_dec kX11_feed 17 rfl) fo_X11_124 (hz_mne hH (by omega)) (by omega) (by omega) rfl ?_
    refine hz_iconst (pc := 35) (v := nI 4) (hz_dec kX11_feed 18 rfl) (by decide) ?_
    refine hz_addN (pc := 36) (hz_dec kX11_feed 19 rfl) ?_
    refine hz_iloadn (pc := 37) 2 (hz_dec kX11_feed 20 rfl) rfl ?_
    refine hz_i2l (pc := 38) (hz_dec kX11_feed 21 rfl) ?_
    refine hz_iconst (pc := 39) (v := nI 4) (hz_dec kX11_feed 22 rfl) (by decide) ?_
    refine hz_xS (pc := 40) (As := [.ref 56, .int (nI (((hoT H).length) + 4)), .long (b).toInt64, .int (nI 4)]) (st := []) (hz_dec kX11_feed 23 rfl) co_X11_127 sc_X0_put (c_put (at_ := (hoT H).length + 4) (mn := 4) (v := b.toInt64) (va_up_self _ _ _) (by decide) (by omega) (by decide) (by omega)) rfl (by decide) ⟨Nat.le_refl _, Nat.le_refl _⟩ (Nat.le_of_ble_eq_true rfl) rfl ?_
    refine hz_mem (pc := 43) (M2 := (va_up (va_up M 56 (.inl (1, 4000, .inl (bn_put ((hoT H).length) 4 a.toInt64 (g56))))) 56 (.inl (1, 4000, .inl (bn_put ((hoT H).length + 4) 4 b.toInt64 (bn_put ((hoT H).length) 4 a.toInt64 (g56))))))) rfl ?_
    refine hz_mem (pc := 43) (M2 := (va_up M 56 (.inl (1, 4000, .inl (bn_put ((hoT H).length + 4) 4 b.toInt64 (bn_put ((hoT H).length) 4 a.toInt64 (g56))))))) (bx_uu _ _ _ _) ?_
    refine hz_aloadn (pc := 43) 0 (hz_dec kX11_feed 24 rfl) rfl ?_
    refine hz_get (pc := 44) (hz_dec kX11_feed 25 rfl) fo_X11_72 (hz_mne hH (by omega)) (by omega) (by omega) rfl ?_
    refine hz_aloadn (pc := 47) 0 (hz_dec kX11_feed 26 rfl) rfl ?_
    refine hz_get (pc := 48) (hz_dec kX11_feed 27 rfl) fo_X11_124 (hz_mne hH (by omega)) (by omega) (by omega) rfl ?_
    refine hz_bipush (pc := 51) (v := nI 8) (hz_dec kX11_feed 28 rfl) (by decide) ?_
    refine hz_addN (pc := 53) (hz_dec kX11_feed 29 rfl) ?_
    refine hz_iloadn (pc := 54) 3 (hz_dec kX11_feed 30 rfl) rfl ?_
    refine hz_i2l (pc := 55) (hz_dec kX11_feed 31 rfl) ?_
    refine hz_iconst (pc := 56) (v := nI 4) (hz_dec kX11_feed 32 rfl) (by decide) ?_
    refine hz_xS (pc := 57) (As := [.ref 56, .int (nI (((hoT H).length) + 8)), .long (c).toInt64, .int (nI 4)]) (st := []) (hz_dec kX11_feed 33 rfl) co_X11_127 sc_X0_put (c_put (at_ := (hoT H).length + 8) (mn := 4) (v := c.toInt64) (va_up_self _ _ _) (by decide) (by omega) (by decide) (by omega)) rfl (by decide) ⟨Nat.le_refl _, Nat.le_refl _⟩ (Nat.le_of_ble_eq_true rfl) rfl ?_
    refine hz_mem (pc := 60) (M2 := (va_up (va_up M 56 (.inl (1, 4000, .inl (bn_put ((hoT H).length + 4) 4 b.toInt64 (bn_put ((hoT H).length) 4 a.toInt64 (g56)))))) 56 (.inl (1, 4000, .inl (bn_put ((hoT H).length + 8) 4 c.toInt64 (bn_put ((hoT H).length + 4) 4 b.toInt64 (bn_put ((hoT H).length) 4 a.toInt64 (g56)))))))) rfl ?_
    refine hz_mem (pc := 60) (M2 := (va_up M 56 (.inl (1, 4000, .inl (bn_put ((hoT H).length + 8) 4 c.toInt64 (bn_put ((hoT H).length + 4) 4 b.toInt64 (bn_put ((hoT H).length) 4 a.toInt64 (g56)))))))) (bx_uu _ _ _ _) ?_
    refine hz_aloadn (pc := 60) 0 (hz_dec kX11_feed 34 rfl) rfl ?_
    refine hz_get (pc := 61) (hz_dec kX11_feed 35 rfl) fo_X11_72 (hz_mne hH (by omega)) (by omega) (by omega) rfl ?_
    refine hz_aloadn (pc := 64) 0 (hz_dec kX11_feed 36 rfl) rfl ?_
    refine hz_get (pc := 65) (hz_dec kX11_feed 37 rfl) fo_X11_124 (hz_mne hH (by omega)) (by omega) (by omega) rfl ?_
    refine hz_bipush (pc := 68) (v := nI 12) (hz_dec kX11_feed 38 rfl) (by decide) ?_
    refine hz_addN (pc := 70) (hz_dec kX11_feed 39 rfl) ?_
    refine hz_iload (pc := 71) 4 (hz_dec kX11_feed 40 rfl) rfl ?_
    refine hz_i2l (pc := 73) (hz_dec kX11_feed 41 rfl) ?_
    refine hz_iconst (pc := 74) (v := nI 4) (hz_dec kX11_feed 42 rfl) (by decide) ?_
    refine hz_xS (pc := 75) (As := [.ref 56, .int (nI (((hoT H).length) + 12)), .long (d).toInt64, .int (nI 4)]) (st := []) (hz_dec kX11_feed 43 rfl) co_X11_127 sc_X0_put (c_put (at_ := (hoT H).length + 12) (mn := 4) (v := d.toInt64) (va_up_self _ _ _) (by decide) (by omega) (by decide) (by omega)) rfl (by decide) ⟨Nat.le_refl _, Nat.le_refl _⟩ (Nat.le_of_ble_eq_true rfl) rfl ?_
    refine hz_mem (pc := 78) (M2 := (va_up (va_up M 56 (.inl (1, 4000, .inl (bn_put ((hoT H).length + 8) 4 c.toInt64 (bn_put ((hoT H).length + 4) 4 b.toInt64 (bn_put ((hoT H).length) 4 a.toInt64 (g56))))))) 56 (.inl (1, 4000, .inl (bn_put ((hoT H).length + 12) 4 d.toInt64 (bn_put ((hoT H).length + 8) 4 c.toInt64 (bn_put ((hoT H).length + 4) 4 b.toInt64 (bn_put ((hoT H).length) 4 a.toInt64 (g56))))))))) rfl ?_
    refine hz_mem (pc := 78) (M2 := (va_up M 56 (.inl (1, 4000, .inl (bn_put ((hoT H).length + 12) 4 d.toInt64 (bn_put ((hoT H).length + 8) 4 c.toInt64 (bn_put ((hoT H).length + 4) 4 b.toInt64 (bn_put ((hoT H).length) 4 a.toInt64 (g56))))))))) (bx_uu _ _ _ _) ?_
    refine hz_aloadn (pc := 78) 0 (hz_dec kX11_feed 44 rfl) rfl ?_
    refine hz_get (pc := 79) (hz_dec kX11_feed 45 rfl) fo_X11_72 (hz_mne hH (by omega)) (by omega) (by omega) rfl ?_
    refine hz_aloadn (pc := 82) 0 (hz_dec kX11_feed 46 rfl) rfl ?_
    refine hz_get (pc := 83) (hz_dec kX11_feed 47 rfl) fo_X11_124 (hz_mne hH (by omega)) (by omega) (by omega) rfl ?_
    refine hz_bipush (pc := 86) (v := nI 16) (hz_dec kX11_feed 48 rfl) (by decide) ?_
    refine hz_addN (pc := 88) (hz_dec kX11_feed 49 rfl) ?_
    refine hz_iload (pc := 89) 5 (hz_dec kX11_feed 50 rfl) rfl ?_
    refine hz_i2l (pc := 91) (hz_dec kX11_feed 51 rfl) ?_
    refine hz_iconst (pc := 92) (v := nI 4) (hz_dec kX11_feed 52 rfl) (by decide) ?_
    refine hz_xS (pc := 93) (As := [.ref 56, .int (nI (((hoT H).length) + 16)), .long (e).toInt64, .int (nI 4)]) (st := []) (hz_dec kX11_feed 53 rfl) co_X11_127 sc_X0_put (c_put (at_ := (hoT H).length + 16) (mn := 4) (v := e.toInt64) (va_up_self _ _ _) (by decide) (by omega) (by decide) (by omega)) rfl (by decide) ⟨Nat.le_refl _, Nat.le_refl _⟩ (Nat.le_of_ble_eq_true rfl) rfl ?_
    refine hz_mem (pc := 96) (M2 := (va_up (va_up M 56 (.inl (1, 4000, .inl (bn_put ((hoT H).length + 12) 4 d.toInt64 (bn_put ((hoT H).length + 8) 4 c.toInt64 (bn_put ((hoT H).length + 4) 4 b.toInt64 (bn_put ((hoT H).length) 4 a.toInt64 (g56)))))))) 56 (.inl (1, 4000, .inl (bn_put ((hoT H).length + 16) 4 e.toInt64 (bn_put ((hoT H).length + 12) 4 d.toInt64 (bn_put ((hoT H).length + 8) 4 c.toInt64 (bn_put ((hoT H).length + 4) 4 b.toInt64 (bn_put ((hoT H).length) 4 a.toInt64 (g56)))))))))) rfl ?_
    refine hz_mem (pc := 96) (M2 := (va_up M 56 (.inl (1, 4000, .inl (bn_put ((hoT H).length + 16) 4 e.toInt64 (bn_put ((hoT H).length + 12) 4 d.toInt64 (bn_put ((hoT H).length + 8) 4 c.toInt64 (bn_put ((hoT H).length + 4) 4 b.toInt64 (bn_put ((hoT H).length) 4 a.toInt64 (g56)))))))))) (bx_uu _ _ _ _) ?_
    have q1 := ap4 (g := bn_put (hoT H).length 4 a.toInt64 g56) hT56 rfl (fun j hj => bn_put_i hj) (fun q hq => bn_put_out _ _ _ _ hq)
    have q2 := ap4 (v := b) (g := bn_put ((hoT H).length + 4) 4 b.toInt64 (bn_put (hoT H).length 4 a.toInt64 g56)) q1.1 q1.2 (fun j hj => bn_put_i hj) (fun q hq => bn_put_out _ _ _ _ hq)
    have q3 := ap4 (v := c) (g := bn_put ((hoT H).length + 8) 4 c.toInt64 (bn_put ((hoT H).length + 4) 4 b.toInt64 (bn_put (hoT H).length 4 a.toInt64 g56))) q2.1 q2.2 (fun j hj => bn_put_i hj) (fun q hq => bn_put_out _ _ _ _ hq)
    have q4 := ap4 (v := d) (g := bn_put ((hoT H).length + 12) 4 d.toInt64 (bn_put ((hoT H).length + 8) 4 c.toInt64 (bn_put ((hoT H).length + 4) 4 b.toInt64 (bn_put (hoT H).length 4 a.toInt64 g56)))) q3.1 q3.2 (fun j hj => bn_put_i hj) (fun q hq => bn_put_out _ _ _ _ hq)
    have q5 := ap4 (v := e) (g := bn_put ((hoT H).length + 16) 4 e.toInt64 (bn_put ((hoT H).length + 12) 4 d.toInt64 (bn_put ((hoT H).length + 8) 4 c.toInt64 (bn_put ((hoT H).length + 4) 4 b.toInt64 (bn_put (hoT H).length 4 a.toInt64 g56))))) q4.1 q4.2 (fun j hj => bn_put_i hj) (fun q hq => bn_put_out _ _ _ _ hq)
    refine hz_aloadn (pc := 96) 0 (hz_dec kX11_feed 54 rfl) rfl ?_
    refine hz_dup (pc := 97) (hz_dec kX11_feed 55 rfl) rfl ?_
    refine hz_get (pc := 98) (hz_dec kX11_feed 56 rfl) fo_X11_124 (hz_mne hH (by omega)) (by omega) (by omega) rfl ?_
    refine hz_bipush (pc := 101) (v := nI 20) (hz_dec kX11_feed 57 rfl) (by decide) ?_
    refine hz_addN (pc := 103) (hz_dec kX11_feed 58 rfl) ?_
    refine hz_puti (pc := 104) (hz_dec kX11_feed 59 rfl) fo_X11_124 ft_X11_8 (hz_mne hH (by omega)) (by omega) (by omega) (Nat.le_of_ble_eq_true rfl) ?_
    refine hz_mem (pc := 107) (M2 := (va_up (va_up M 56 (.inl (1, 4000, .inl (bn_put ((hoT H).length + 16) 4 e.toInt64 (bn_put ((hoT H).length + 12) 4 d.toInt64 (bn_put ((hoT H).length + 8) 4 c.toInt64 (bn_put ((hoT H).length + 4) 4 b.toInt64 (bn_put ((hoT H).length) 4 a.toInt64 (g56))))))))) 8 (.inr (11, [.ref 9, .ref 13, .ref 20, .ref 25, .ref 39, .ref 45, .ref 55, .ref 56, .int (nI (((hoT H).length) + 20)), .int (hoE H), .ref 57, .ref 58, .ref 61])))) rfl ?_
    refine hz_aloadn (pc := 107) 0 (hz_dec kX11_feed 60 rfl) rfl ?_
    refine hz_get (pc := 108) (hz_dec kX11_feed 61 rfl) fo_X11_124 (va_up_self _ _ _) (by omega) (by omega) rfl ?_
    have hf : frS [(8, 9), (56, 57)] M (va_up (va_up M 56 (.inl (1, 4000, .inl (bn_put ((hoT H).length + 16) 4 e.toInt64 (bn_put ((hoT H).length + 12) 4 d.toInt64 (bn_put ((hoT H).length + 8) 4 c.toInt64 (bn_put ((hoT H).length + 4) 4 b.toInt64 (bn_put ((hoT H).length) 4 a.toInt64 (g56))))))))) 8 (.inr (11, [.ref 9, .ref 13, .ref 20, .ref 25, .ref 39, .ref 45, .ref 55, .ref 56, .int (nI (((hoT H).length) + 20)), .int (hoE H), .ref 57, .ref 58, .ref 61]))) := (((frS.rf (S := [(8, 9), (56, 57)])).upr (a := 56) (by simp only [outS, and_true]; omega)).upr (a := 8) (by simp only [outS, and_true]; omega))
    have hR2 : hcR (va_up (va_up M 56 (.inl (1, 4000, .inl (bn_put ((hoT H).length + 16) 4 e.toInt64 (bn_put ((hoT H).length + 12) 4 d.toInt64 (bn_put ((hoT H).length + 8) 4 c.toInt64 (bn_put ((hoT H).length + 4) 4 b.toInt64 (bn_put ((hoT H).length) 4 a.toInt64 (g56))))))))) 8 (.inr (11, [.ref 9, .ref 13, .ref 20, .ref 25, .ref 39, .ref 45, .ref 55, .ref 56, .int (nI (((hoT H).length) + 20)), .int (hoE H), .ref 57, .ref 58, .ref 61]))) z (hot H (fdT (hoT H) a b c d e) (hoE H)) ll fr kn := hR.t hf (by rw [fdT_len]; exact va_up_self _ _ _) ⟨_, hz_mne (va_up_self _ _ _) (by decide), q5.1⟩
    exact hz_iret (pc := 111) (hz_dec kX11_feed 62 rfl) rfl ⟨rfl, rfl, (hf.mono (fun q (h9 : outS [(8, 63 + 34 * (hoN H).length)] q) => ⟨by have r := h9.1; omega, by have r := h9.1; omega, trivial⟩)), ll, fr, kn, hR2⟩
  · skip
    exact absurd hk (by omega)
set_option maxHeartbeats 4000000 in
set_option maxRecDepth 100000 in
theorem c_feedB {κ : hz_C} {z : Nat} {M : hz_M} {H : ho_H} (hz : 63 + 34 * (hoN H).length ≤ z) (hnn : (hoN H).length ≤ 6) (hT4 : (hoT H).length ≤ 4000) {ll : Nat} {fr kn : Int32} (hR : hcR M z H ll fr kn) {a b c d e : Int32} (hk : ¬ (hoT H).length ≤ 3980) : hz_Mt κ xX11_feed 1 0 0 [.ref 8, .int a, .int b, .int c, .int d, .int e] z M (hcP M z H (.int (-3)) H) := by
  refine hz_ent (lo := [(0, .ref 8), (1, .int a), (2, .int b), (3, .int c), (4, .int d), (5, .int e)]) (by decide) (Nat.le_of_ble_eq_true rfl) rfl ?_
  have hH := hR.1
  have hNs := hR.2.1
  obtain ⟨hO, hQ, hD⟩ := id hR.2.2.2.2.1
  obtain ⟨g53, h53⟩ := hR.2.2.2.2.2.1
  have hJ := hR.2.2.2.1
  obtain ⟨g56, h56, hT56⟩ := hR.2.2.2.2.2.2.2.2.2.1
  have hdf := hR.2.2.2.2.2.2.2.2.2.2
  have hck : ck_k M z := hJ.2.2.2.2.2.2.2.1
  have hcs : ck_s M := hJ.2.2.2.2.2.2.2.2.1
  have hz63 : 63 ≤ z := by omega
  refine hz_aloadn (pc := 0) 0 (hz_dec kX11_feed 0 rfl) rfl ?_
  refine hz_get (pc := 1) (hz_dec kX11_feed 1 rfl) fo_X11_124 hH (by omega) (by omega) rfl ?_
  refine hz_sipush (pc := 4) (v := nI 3980) (hz_dec kX11_feed 2 rfl) (by decide) ?_
  refine hz_n_le (pc := 7) (tgt := 13) (hz_dec kX11_feed 3 rfl) (by decide) (by omega) (by omega) (fun h1 => ?_) (fun h1 => ?_)
  · skip
    exact absurd h1 hk
  · skip
    refine hz_bipush (pc := 10) (v := (-3)) (hz_dec kX11_feed 4 rfl) (by decide) ?_
    exact hz_iret (pc := 12) (hz_dec kX11_feed 5 rfl) rfl (hcP.no hR _)
set_option maxHeartbeats 4000000 in
set_option maxRecDepth 100000 in
theorem c_rfeed {κ : hz_C} {z B : Nat} {M : hz_M} {H : ho_H} (hnn : (hoN H).length ≤ 6) (hT4 : (hoT H).length ≤ 4000) (hR : hmR M z B H) {a b c d e : Int32} (hk : (hoT H).length ≤ 3980) : hz_Mt κ xX12_feed 1 0 0 [.ref B, .int a, .int b, .int c, .int d, .int e] z M (hmP M z B (.int (nI ((hoT H).length + 20))) (hot H (fdT (hoT H) a b c d e) (hoE H))) := by
  refine hz_ent (lo := [(0, .ref B), (1, .int a), (2, .int b), (3, .int c), (4, .int d), (5, .int e)]) (by decide) (Nat.le_of_ble_eq_true rfl) rfl ?_
  obtain ⟨hk0_, hE0, ⟨m1, m2, m3⟩, hNd, a5, a6, a7, a8⟩ := id hR
  obtain ⟨⟨fs, hO, hF⟩, -, -, h8, hz⟩ := id hk0_
  obtain ⟨x1, x3, x4, x5, x6, x7, x8⟩ := id m3
  refine hz_aloadn (pc := 0) 0 (hz_dec kX12_feed 0 rfl) rfl ?_
  refine hz_iconst (pc := 1) (v := nI 0) (hz_dec kX12_feed 1 rfl) (by decide) ?_
  refine hz_puti (pc := 2) (hz_dec kX12_feed 2 rfl) fo_X12_302 ft_X12_0 hO h8 (by omega) (by rw [hF.1]; decide) ?_
  have hf1 : mfr B [0, 89] [] M (va_up M B (.inr (12, (List.set fs 0 (.int (nI 0)))))) := (mfr.rf ⟨fs, hO, hF⟩).upO (k := 0) hO hF rfl rfl
  have hR1 : hmR (va_up M B (.inr (12, (List.set fs 0 (.int (nI 0)))))) z B H := hR.m0 hf1 hE0.upO ((fdB_of (va_up_self _ _ _) 89).trans ((List.getElem?_set_ne (by decide)).trans ((fdB_of hO 89).symm.trans x8)))
  generalize (va_up M B (.inr (12, (List.set fs 0 (.int (nI 0)))))) = M1 at *
  obtain ⟨hk1, hE1, ⟨n1, d1, q1⟩, hNd1, a51, a61, a71, a81⟩ := id hR1
  obtain ⟨⟨fs1, hO1, hF1⟩, -, -, -, -⟩ := id hk1
  have g95_1 : fs1[95]? = some (.int (nI ((hoT H).length))) := (fdB_of hO1 95).symm.trans a61
  have g103_1 : fs1[103]? = some (.int (hoE H)) := (fdB_of hO1 103).symm.trans a81
  refine hz_aloadn (pc := 5) 0 (hz_dec kX12_feed 3 rfl) rfl ?_
  refine hz_get (pc := 6) (v := .int (nI ((hoT H).length))) (hz_dec kX12_feed 4 rfl) fo_X12_679 hO1 h8 (by omega) g95_1 ?_
  refine hz_bipush (pc := 9) (v := nI 20) (hz_dec kX12_feed 5 rfl) (by decide) ?_
  refine hz_addN (pc := 11) (hz_dec kX12_feed 6 rfl) ?_
  refine hz_sipush (pc := 12) (v := nI 4000) (hz_dec kX12_feed 7 rfl) (by decide) ?_
  refine hz_n_le (pc := 15) (tgt := 21) (hz_dec kX12_feed 8 rfl) (by decide) (by omega) (by omega) (fun h1 => ?_) (fun h1 => ?_)
  · skip
    refine hz_aloadn (pc := 21) 0 (hz_dec kX12_feed 11 rfl) rfl ?_
    refine hz_get (pc := 22) (v := .ref (B + 80)) (hz_dec kX12_feed 12 rfl) fo_X12_261 hO1 h8 (by omega) (hF1.2 94 (by decide) (by decide)) ?_
    refine hz_aloadn (pc := 25) 0 (hz_dec kX12_feed 13 rfl) rfl ?_
    refine hz_get (pc := 26) (v := .int (nI ((hoT H).length))) (hz_dec kX12_feed 14 rfl) fo_X12_679 hO1 h8 (by omega) g95_1 ?_
    refine hz_iloadn (pc := 29) 1 (hz_dec kX12_feed 15 rfl) rfl ?_
    refine hz_callS (pc := 30) (As := [.ref (B + 80), .int (nI ((hoT H).length)), .int a]) (st := []) (hz_dec kX12_feed 16 rfl) co_X12_425 sc_X12_putInt (c_putInt (at_ := (hoT H).length) (v := a) hE1.a80 (by omega) (by omega) (by decide) (by omega)) rfl (by decide) ⟨Nat.le_refl _, Nat.le_refl _⟩ (Nat.le_of_ble_eq_true rfl) rfl (fun r9 z9 M9 hp9 => ?_)
    obtain ⟨rfl, rfl, f1, u1, v1, rfl⟩ := hp9
    refine hz_aloadn (pc := 33) 0 (hz_dec kX12_feed 17 rfl) rfl ?_
    refine hz_get (pc := 34) (v := .ref (B + 80)) (hz_dec kX12_feed 18 rfl) fo_X12_261 (hz_mne hO1 (by omega)) h8 (by omega) (hF1.2 94 (by decide) (by decide)) ?_
    refine hz_aloadn (pc := 37) 0 (hz_dec kX12_feed 19 rfl) rfl ?_
    refine hz_get (pc := 38) (v := .int (nI ((hoT H).length))) (hz_dec kX12_feed 20 rfl) fo_X12_679 (hz_mne hO1 (by omega)) h8 (by omega) g95_1 ?_
    refine hz_iconst (pc := 41) (v := nI 4) (hz_dec kX12_feed 21 rfl) (by decide) ?_
    refine hz_addN (pc := 42) (hz_dec kX12_feed 22 rfl) ?_
    refine hz_iloadn (pc := 43) 2 (hz_dec kX12_feed 23 rfl) rfl ?_
    refine hz_callS (pc := 44) (As := [.ref (B + 80), .int (nI (((hoT H).length) + 4)), .int b]) (st := []) (hz_dec kX12_feed 24 rfl) co_X12_425 sc_X12_putInt (c_putInt (at_ := (hoT H).length + 4) (v := b) (va_up_self _ _ _) (by omega) (by omega) (by decide) (by omega)) rfl (by decide) ⟨Nat.le_refl _, Nat.le_refl _⟩ (Nat.le_of_ble_eq_true rfl) rfl (fun r9 z9 M9 hp9 => ?_)
    obtain ⟨rfl, rfl, f2, u2, v2, rfl⟩ := hp9
    refine hz_mem (pc := 47) (M2 := (va_up M1 (B + 80) (.inl (1, 4000, .inl (f2))))) (bx_uu _ _ _ _) ?_
    refine hz_aloadn (pc := 47) 0 (hz_dec kX12_feed 25 rfl) rfl ?_
    refine hz_get (pc := 48) (v := .ref (B + 80)) (hz_dec kX12_feed 26 rfl) fo_X12_261 (hz_mne hO1 (by omega)) h8 (by omega) (hF1.2 94 (by decide) (by decide)) ?_
    refine hz_aloadn (pc := 51) 0 (hz_dec kX12_feed 27 rfl) rfl ?_
    refine hz_get (pc := 52) (v := .int (nI ((hoT H).length))) (hz_dec kX12_feed 28 rfl) fo_X12_679 (hz_mne hO1 (by omega)) h8 (by omega) g95_1 ?_
    refine hz_bipush (pc := 55) (v := nI 8) (hz_dec kX12_feed 29 rfl) (by decide) ?_
    refine hz_addN (pc := 57) (hz_dec kX12_feed 30 rfl) ?_
    refine hz_iloadn (pc := 58) 3 (hz_dec kX12_feed 31 rfl) rfl ?_
    refine hz_callS (pc := 59) (As := [.ref (B + 80), .int (nI (((hoT H).length) + 8)), .int c]) (st := []) (hz_dec kX12_feed 32 rfl) co_X12_425 sc_X12_putInt (c_putInt (at_ := (hoT H).length + 8) (v := c) (va_up_self _ _ _) (by omega) (by omega) (by decide) (by omega)) rfl (by decide) ⟨Nat.le_refl _, Nat.le_refl _⟩ (Nat.le_of_ble_eq_true rfl) rfl (fun r9 z9 M9 hp9 => ?_)
    obtain ⟨rfl, rfl, f3, u3, v3, rfl⟩ := hp9
    refine hz_mem (pc := 62) (M2 := (va_up M1 (B + 80) (.inl (1, 4000, .inl (f3))))) (bx_uu _ _ _ _) ?_
    refine hz_aloadn (pc := 62) 0 (hz_dec kX12_feed 33 rfl) rfl ?_
    refine hz_get (pc := 63) (v := .ref (B + 80)) (hz_dec kX12_feed 34 rfl) fo_X12_261 (hz_mne hO1 (by omega)) h8 (by omega) (hF1.2 94 (by decide) (by decide)) ?_
    refine hz_aloadn (pc := 66) 0 (hz_dec kX12_feed 35 rfl) rfl ?_
    refine hz_get (pc := 67) (v := .int (nI ((hoT H).length))) (hz_dec kX12_feed 36 rfl) fo_X12_679 (hz_mne hO1 (by omega)) h8 (by omega) g95_1 ?_
    refine hz_bipush (pc := 70) (v := nI 12) (hz_dec kX12_feed 37 rfl) (by decide) ?_
    refine hz_addN (pc := 72) (hz_dec kX12_feed 38 rfl) ?_
    refine hz_iload (pc := 73) 4 (hz_dec kX12_feed 39 rfl) rfl ?_
    refine hz_callS (pc := 75) (As := [.ref (B + 80), .int (nI (((hoT H).length) + 12)), .int d]) (st := []) (hz_dec kX12_feed 40 rfl) co_X12_425 sc_X12_putInt (c_putInt (at_ := (hoT H).length + 12) (v := d) (va_up_self _ _ _) (by omega) (by omega) (by decide) (by omega)) rfl (by decide) ⟨Nat.le_refl _, Nat.le_refl _⟩ (Nat.le_of_ble_eq_true rfl) rfl (fun r9 z9 M9 hp9 => ?_)
    obtain ⟨rfl, rfl, f4, u4, v4, rfl⟩ := hp9
    refine hz_mem (pc := 78) (M2 := (va_up M1 (B + 80) (.inl (1, 4000, .inl (f4))))) (bx_uu _ _ _ _) ?_
    refine hz_aloadn (pc := 78) 0 (hz_dec kX12_feed 41 rfl) rfl ?_
    refine hz_get (pc := 79) (v := .ref (B + 80)) (hz_dec kX12_feed 42 rfl) fo_X12_261 (hz_mne hO1 (by omega)) h8 (by omega) (hF1.2 94 (by decide) (by decide)) ?_
    refine hz_aloadn (pc := 82) 0 (hz_dec kX12_feed 43 rfl) rfl ?_
    refine hz_get (pc := 83) (v := .int (nI ((hoT H).length))) (hz_dec kX12_feed 44 rfl) fo_X12_679 (hz_mne hO1 (by omega)) h8 (by omega) g95_1 ?_
    refine hz_bipush (pc := 86) (v := nI 16) (hz_dec kX12_feed 45 rfl) (by decide) ?_
    refine hz_addN (pc := 88) (hz_dec kX12_feed 46 rfl) ?_
    refine hz_iload (pc := 89) 5 (hz_dec kX12_feed 47 rfl) rfl ?_
    refine hz_callS (pc := 91) (As := [.ref (B + 80), .int (nI (((hoT H).length) + 16)), .int e]) (st := []) (hz_dec kX12_feed 48 rfl) co_X12_425 sc_X12_putInt (c_putInt (at_ := (hoT H).length + 16) (v := e) (va_up_self _ _ _) (by omega) (by omega) (by decide) (by omega)) rfl (by decide) ⟨Nat.le_refl _, Nat.le_refl _⟩ (Nat.le_of_ble_eq_true rfl) rfl (fun r9 z9 M9 hp9 => ?_)
    obtain ⟨rfl, rfl, f5, u5, v5, rfl⟩ := hp9
    refine hz_mem (pc := 94) (M2 := (va_up M1 (B + 80) (.inl (1, 4000, .inl (f5))))) (bx_uu _ _ _ _) ?_
    have q1 := ap4 (v := a) a51 rfl u1 v1
    have q2 := ap4 (v := b) q1.1 q1.2 u2 v2
    have q3 := ap4 (v := c) q2.1 q2.2 u3 v3
    have q4 := ap4 (v := d) q3.1 q3.2 u4 v4
    have q5 := ap4 (v := e) q4.1 q4.2 u5 v5
    refine hz_aloadn (pc := 94) 0 (hz_dec kX12_feed 49 rfl) rfl ?_
    refine hz_dup (pc := 95) (hz_dec kX12_feed 50 rfl) rfl ?_
    refine hz_get (pc := 96) (v := .int (nI ((hoT H).length))) (hz_dec kX12_feed 51 rfl) fo_X12_679 (hz_mne hO1 (by omega)) h8 (by omega) g95_1 ?_
    refine hz_bipush (pc := 99) (v := nI 20) (hz_dec kX12_feed 52 rfl) (by decide) ?_
    refine hz_addN (pc := 101) (hz_dec kX12_feed 53 rfl) ?_
    refine hz_puti (pc := 102) (hz_dec kX12_feed 54 rfl) fo_X12_679 ft_X12_95 (hz_mne hO1 (by omega)) h8 (by omega) (by rw [hF1.1]; decide) ?_
    refine hz_aloadn (pc := 105) 0 (hz_dec kX12_feed 55 rfl) rfl ?_
    refine hz_get (pc := 106) (v := .int (nI (((hoT H).length) + 20))) (hz_dec kX12_feed 56 rfl) fo_X12_679 (va_up_self _ _ _) h8 (by omega) (List.getElem?_set_self (by rw [hF1.1]; decide)) ?_
    have hf2 : mfr B [95, 103] [80] M1 (va_up (va_up M1 (B + 80) (.inl (1, 4000, .inl (f5)))) B (.inr (12, (List.set fs1 95 (.int (nI (((hoT H).length) + 20))))))) := (((mfr.rf (ks := [95, 103]) (os := [80]) hk1.1).upA (o := 80) rfl (by decide)).upO (k := 95) (hz_mne hO1 (by omega)) hF1 rfl rfl)
    have hE2 : mdE (va_up (va_up M1 (B + 80) (.inl (1, 4000, .inl (f5)))) B (.inr (12, (List.set fs1 95 (.int (nI (((hoT H).length) + 20))))))) B := ((hE1.upA (k := 80) (t := 1) (n := 4000) (by decide)).upO)
    have hR2 : hmR (va_up (va_up M1 (B + 80) (.inl (1, 4000, .inl (f5)))) B (.inr (12, (List.set fs1 95 (.int (nI (((hoT H).length) + 20))))))) z B (hot H (fdT (hoT H) a b c d e) (hoE H)) := hR1.t hf2 hE2 (by rw [fA_c (va_up_ne _ _ (by omega)), fA_of (va_up_self _ _ _)]; exact q5.1) (by rw [fdT_len]; exact (fdB_of (va_up_self _ _ _) 95).trans (List.getElem?_set_self (by rw [hF1.1]; decide))) ((fdB_of (va_up_self _ _ _) 103).trans ((List.getElem?_set_ne (by decide)).trans g103_1))
    exact hz_iret (pc := 109) (hz_dec kX12_feed 57 rfl) rfl ⟨rfl, rfl, (hf1.S rfl).tr (hf2.S rfl), hR2⟩
  · skip
    exact absurd hk (by omega)
set_option maxHeartbeats 4000000 in
set_option maxRecDepth 100000 in
theorem c_rfeedB {κ : hz_C} {z B : Nat} {M : hz_M} {H : ho_H} (hnn : (hoN H).length ≤ 6) (hT4 : (hoT H).length ≤ 4000) (hR : hmR M z B H) {a b c d e : Int32} (hk : ¬ (hoT H).length ≤ 3980) : hz_Mt κ xX12_feed 1 0 0 [.ref B, .int a, .int b, .int c, .int d, .int e] z M (hmP M z B (.int (-3)) H) := by
  refine hz_ent (lo := [(0, .ref B), (1, .int a), (2, .int b), (3, .int c), (4, .int d), (5, .int e)]) (by decide) (Nat.le_of_ble_eq_true rfl) rfl ?_
  obtain ⟨hk0_, hE0, ⟨m1, m2, m3⟩, hNd, a5, a6, a7, a8⟩ := id hR
  obtain ⟨⟨fs, hO, hF⟩, -, -, h8, hz⟩ := id hk0_
  obtain ⟨x1, x3, x4, x5, x6, x7, x8⟩ := id m3
  refine hz_aloadn (pc := 0) 0 (hz_dec kX12_feed 0 rfl) rfl ?_
  refine hz_iconst (pc := 1) (v := nI 0) (hz_dec kX12_feed 1 rfl) (by decide) ?_
  refine hz_puti (pc := 2) (hz_dec kX12_feed 2 rfl) fo_X12_302 ft_X12_0 hO h8 (by omega) (by rw [hF.1]; decide) ?_
  have hf1 : mfr B [0, 89] [] M (va_up M B (.inr (12, (List.set fs 0 (.int (nI 0)))))) := (mfr.rf ⟨fs, hO, hF⟩).upO (k := 0) hO hF rfl rfl
  have hR1 : hmR (va_up M B (.inr (12, (List.set fs 0 (.int (nI 0)))))) z B H := hR.m0 hf1 hE0.upO ((fdB_of (va_up_self _ _ _) 89).trans ((List.getElem?_set_ne (by decide)).trans ((fdB_of hO 89).symm.trans x8)))
  generalize (va_up M B (.inr (12, (List.set fs 0 (.int (nI 0)))))) = M1 at *
  obtain ⟨hk1, hE1, ⟨n1, d1, q1⟩, hNd1, a51, a61, a71, a81⟩ := id hR1
  obtain ⟨⟨fs1, hO1, hF1⟩, -, -, -, -⟩ := id hk1
  have g95_1 : fs1[95]? = some (.int (nI ((hoT H).length))) := (fdB_of hO1 95).symm.trans a61
  refine hz_aloadn (pc := 5) 0 (hz_dec kX12_feed 3 rfl) rfl ?_
  refine hz_get (pc := 6) (v := .int (nI ((hoT H).length))) (hz_dec kX12_feed 4 rfl) fo_X12_679 hO1 h8 (by omega) g95_1 ?_
  refine hz_bipush (pc := 9) (v := nI 20) (hz_dec kX12_feed 5 rfl) (by decide) ?_
  refine hz_addN (pc := 11) (hz_dec kX12_feed 6 rfl) ?_
  refine hz_sipush (pc := 12) (v := nI 4000) (hz_dec kX12_feed 7 rfl) (by decide) ?_
  refine hz_n_le (pc := 15) (tgt := 21) (hz_dec kX12_feed 8 rfl) (by decide) (by omega) (by omega) (fun h1 => ?_) (fun h1 => ?_)
  · skip
    exact absurd h1 (by omega)
  · skip
    refine hz_bipush (pc := 18) (v := (-3)) (hz_dec kX12_feed 9 rfl) (by decide) ?_
    exact hz_iret (pc := 20) (hz_dec kX12_feed 10 rfl) rfl ⟨rfl, rfl, hf1.S rfl, hR1⟩
