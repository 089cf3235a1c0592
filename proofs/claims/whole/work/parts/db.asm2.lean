/-! assemble: the class -/
theorem cpy_i {f g : Nat → Int32} {a b n j : Nat} (h : j < n) : va_cpy f g a b n (b + j) = f (a + j) := by
  unfold va_cpy
  rw [if_pos (by omega), Nat.add_sub_cancel_left]
theorem cpy_o {f g : Nat → Int32} {a b n q : Nat} (h : q < b ∨ b + n ≤ q) : va_cpy f g a b n q = g q := by
  unfold va_cpy
  rw [if_neg (by omega)]
theorem cgX_cp {po : List po_P} {f g : Nat → Int32} {a m : Nat} (h : isA g 103 (cgX po m)) (h2 : isA f a (poL po (cgK (poV po) po.length m))) : isA (va_cpy f g a (103 + (cgX po m).length) (poL po (cgK (poV po) po.length m)).length) 103 (cgX po (m + 1)) := by
  show isA _ 103 (cgX po m ++ poL po (cgK (poV po) po.length m))
  refine isA_app (fun j hj => (cpy_o (by omega)).trans (h j hj)) (fun j hj => (cpy_i hj).trans (h2 j hj))
theorem ndR.c {M : hz_M} {nb v : Nat} {N : nd_N} (h : ndR M nb v N) (g : Nat → Int32) : ndR (va_up M (nb + 14) (.inl (0, 7, .inl g))) nb v N := by
  obtain ⟨h1, ⟨g0, h2, h3⟩, h4, h5, h6, h7⟩ := h
  have e : ∀ q, ¬ q = nb + 14 → va_up M (nb + 14) (.inl (0, 7, .inl g)) q = M q := fun q hq => va_up_ne _ _ hq
  exact ⟨(e nb (by omega)).trans h1, ⟨g0, (e _ (by omega)).trans h2, h3⟩, h4.fr (fun q q1 q2 => e q (by omega)), h5.fr (fun q q1 q2 => e q (by omega)), h6.fr (fun q q1 q2 => e q (by omega)), h7.1.fr (fun q q1 q2 => e q (by omega)), h7.2.1.fr (fun q q1 q2 => e q (by omega)), g, va_up_self _ _ _⟩
def asN (N : nd_N) (tm : Int32) (sd : Int64) : by_L := asT (haS (bBy (ksB N.1) (ksT N.1))) tm (dueE (enB (ksB N.1)) (ksT N.1)) (cgN (ksP N.1)) (eH (enB (ksB N.1)) (ksT N.1) + 1) ((nI (subS (eH (enB (ksB N.1)) (ksT N.1) + 1))).toInt64 + cgF (poV (ksP N.1)) (ksP N.1).length (cgN (ksP N.1))) (ky_a sd) (ksP N.1)
/-- all but the ROOT and what is put in last -/
def asG (N : nd_N) (tm : Int32) (g : Nat → Int32) : Prop := (∀ j, j < 32 → g j = lf (haS (bBy (ksB N.1) (ksT N.1))) j) ∧ (∀ j, j < 4 → g (64 + j) = sb_b (byi tm j)) ∧ (∀ j, j < 4 → g (68 + j) = sb_b (byi (dueE (enB (ksB N.1)) (ksT N.1)) j)) ∧ ∀ j, j < 8 → g (72 + j) = 0
theorem asG.o {N : nd_N} {tm : Int32} {g g2 : Nat → Int32} (h : asG N tm g) (e : ∀ q, q < 80 → g2 q = g q) : asG N tm g2 := ⟨fun j hj => (e _ (by omega)).trans (h.1 j hj), fun j hj => (e _ (by omega)).trans (h.2.1 j hj), fun j hj => (e _ (by omega)).trans (h.2.2.1 j hj), fun j hj => (e _ (by omega)).trans (h.2.2.2 j hj)⟩
set_option maxHeartbeats 4000000 in
set_option maxRecDepth 100000 in
theorem c_assembleN {κ : hz_C} {z : Nat} {M : hz_M} {H : ho_H} (hz : 63 + 34 * (hoN H).length ≤ z) (hnn : (hoN H).length ≤ 6) (hT4 : (hoT H).length ≤ 4000) {ll : Nat} {fr kn : Int32} (hR : hcR M z H ll fr kn) {v : Int32} {sd : Int64} {tm : Int32} (hv : v < 0 ∨ ¬ v < nI (hoN H).length) : hz_Mt κ xX11_assemble 6 0 0 [.ref 8, .int v, .long sd, .int tm] z M (hcP M z H (.int (-1)) H) := by
  refine hz_ent (lo := [(0, .ref 8), (1, .int v), (2, .long sd), (4, .int tm)]) (by decide) (Nat.le_of_ble_eq_true rfl) rfl ?_
  have hH := hR.1
  have hNs := hR.2.1
  obtain ⟨hO, hQ, hD⟩ := id hR.2.2.2.2.1
  obtain ⟨g53, h53⟩ := hR.2.2.2.2.2.1
  have hJ := hR.2.2.2.1
  obtain ⟨g56, h56, hT56⟩ := hR.2.2.2.2.2.2.2.2.2.1
  have hdf := hR.2.2.2.2.2.2.2.2.2.2
  have hck : ck_k M z := hJ.2.2.2.2.2.2.2.1
  have hcs : ck_s M := hJ.2.2.2.2.2.2.2.2.1
  have hz63 : 63 ≤ z := by omega
  refine hz_aloadn (pc := 0) 0 (hz_dec kX11_assemble 0 rfl) rfl ?_
  refine hz_iloadn (pc := 1) 1 (hz_dec kX11_assemble 1 rfl) rfl ?_
  refine hz_xV (pc := 2) (a := 8) (As := [.int v]) (st := []) (hz_dec kX11_assemble 2 rfl) co_X11_162 im_X11_nodeOf se_X11_nodeOf rfl hH (by omega) (by omega) (c_nOfN hz63 hH hnn hNs hv) rfl (by decide) ⟨Nat.le_refl _, Nat.le_refl _⟩ (Nat.le_of_ble_eq_true rfl) rfl ?_
  refine hz_astoreN (pc := 5) (i := 5) (lo2 := [(5, .null), (0, .ref 8), (1, .int v), (2, .long sd), (4, .int tm)]) (hz_dec kX11_assemble 3 rfl) (by decide) rfl ?_
  refine hz_aloadN (pc := 7) 0 (hz_dec kX11_assemble 4 rfl) rfl ?_
  refine hz_ifnonnullN (pc := 9) (hz_dec kX11_assemble 5 rfl) ?_
  refine hz_iconst (pc := 12) (v := (-1)) (hz_dec kX11_assemble 6 rfl) (by decide) ?_
  exact hz_iret (pc := 13) (hz_dec kX11_assemble 7 rfl) rfl (hcP.no hR _)
set_option maxHeartbeats 4000000 in
set_option maxRecDepth 100000 in
theorem c_rassembleN {κ : hz_C} {z B : Nat} {M : hz_M} {H : ho_H} (hnn : (hoN H).length ≤ 6) (hT4 : (hoT H).length ≤ 4000) (hR : hmR M z B H) {v : Int32} {sd : Int64} {tm : Int32} (hv : v < 0 ∨ ¬ v < nI (hoN H).length) : hz_Mt κ xX12_assemble 8 0 0 [.ref B, .int v, .long sd, .int tm] z M (hmP M z B (.int (-1)) H) := by
  refine hz_ent (lo := [(0, .ref B), (1, .int v), (2, .long sd), (4, .int tm)]) (by decide) (Nat.le_of_ble_eq_true rfl) rfl ?_
  obtain ⟨hk0_, hE0, ⟨m1, m2, m3⟩, hNd, a5, a6, a7, a8⟩ := id hR
  obtain ⟨⟨fs, hO, hF⟩, -, -, h8, hz⟩ := id hk0_
  obtain ⟨x1, x3, x4, x5, x6, x7, x8⟩ := id m3
  refine hz_aloadn (pc := 0) 0 (hz_dec kX12_assemble 0 rfl) rfl ?_
  refine hz_iconst (pc := 1) (v := nI 0) (hz_dec kX12_assemble 1 rfl) (by decide) ?_
  refine hz_puti (pc := 2) (hz_dec kX12_assemble 2 rfl) fo_X12_302 ft_X12_0 hO h8 (by omega) (by rw [hF.1]; decide) ?_
  have hf1 : mfr B [0, 89] [] M (va_up M B (.inr (12, (List.set fs 0 (.int (nI 0)))))) := (mfr.rf ⟨fs, hO, hF⟩).upO (k := 0) hO hF rfl rfl
  have hR1 : hmR (va_up M B (.inr (12, (List.set fs 0 (.int (nI 0)))))) z B H := hR.m0 hf1 hE0.upO ((fdB_of (va_up_self _ _ _) 89).trans ((List.getElem?_set_ne (by decide)).trans ((fdB_of hO 89).symm.trans x8)))
  generalize (va_up M B (.inr (12, (List.set fs 0 (.int (nI 0)))))) = M1 at *
  obtain ⟨hk1, hE1, ⟨n1, d1, q1⟩, hNd1, a51, a61, a71, a81⟩ := id hR1
  obtain ⟨⟨fs1, hO1, hF1⟩, -, -, -, -⟩ := id hk1
  refine hz_aloadn (pc := 5) 0 (hz_dec kX12_assemble 3 rfl) rfl ?_
  refine hz_iloadn (pc := 6) 1 (hz_dec kX12_assemble 4 rfl) rfl ?_
  refine hz_xV (pc := 7) (a := B) (As := [.int v]) (st := []) (hz_dec kX12_assemble 5 rfl) co_X12_692 im_X12_stateOf se_X12_stateOf rfl hO1 h8 (by omega) (c_stN hnn hR1 hv) rfl (by decide) ⟨Nat.le_refl _, Nat.le_refl _⟩ (Nat.le_of_ble_eq_true rfl) rfl ?_
  refine hz_istore (pc := 10) (i := 5) (lo2 := [(5, .int (-1)), (0, .ref B), (1, .int v), (2, .long sd), (4, .int tm)]) (hz_dec kX12_assemble 6 rfl) (by decide) rfl ?_
  refine hz_iload (pc := 12) 0 (hz_dec kX12_assemble 7 rfl) rfl ?_
  refine hz_if_ge (pc := 14) (tgt := 20) (hz_dec kX12_assemble 8 rfl) (by decide) (fun hq1 => ?_) (fun hq1 => ?_)
  · skip
    exact absurd hq1 (by decide)
  · skip
    refine hz_iload (pc := 17) 0 (hz_dec kX12_assemble 9 rfl) rfl ?_
    exact hz_iret (pc := 19) (hz_dec kX12_assemble 10 rfl) rfl ⟨rfl, rfl, hf1.S rfl, hR1⟩
set_option maxHeartbeats 4000000 in
set_option maxRecDepth 100000 in
theorem c_assembleD {κ : hz_C} {z : Nat} {M : hz_M} {H : ho_H} (hz : 63 + 34 * (hoN H).length ≤ z) (hnn : (hoN H).length ≤ 6) (hT4 : (hoT H).length ≤ 4000) {ll : Nat} {fr kn : Int32} (hR : hcR M z H ll fr kn) {v : Nat} (hv : v < (hoN H).length) {N : nd_N} (hN : ndL (hoN H) v = N) {sd : Int64} {tm : Int32} (hup : N.2.1 = false) : hz_Mt κ xX11_assemble 6 0 0 [.ref 8, .int (nI v), .long sd, .int tm] z M (hcP M z H (.int (-2)) H) := by
  refine hz_ent (lo := [(0, .ref 8), (1, .int (nI v)), (2, .long sd), (4, .int tm)]) (by decide) (Nat.le_of_ble_eq_true rfl) rfl ?_
  have hH := hR.1
  have hNs := hR.2.1
  obtain ⟨hO, hQ, hD⟩ := id hR.2.2.2.2.1
  obtain ⟨g53, h53⟩ := hR.2.2.2.2.2.1
  have hJ := hR.2.2.2.1
  obtain ⟨g56, h56, hT56⟩ := hR.2.2.2.2.2.2.2.2.2.1
  have hdf := hR.2.2.2.2.2.2.2.2.2.2
  have hck : ck_k M z := hJ.2.2.2.2.2.2.2.1
  have hcs : ck_s M := hJ.2.2.2.2.2.2.2.2.1
  have hz63 : 63 ≤ z := by omega
  have hK := hR.2.2.1 v hv
  rw [hN] at hK
  obtain ⟨hn, ⟨gd, hgd, hgD⟩, hT, hC, hP, hL⟩ := id hK
  have hn : M (63 + 34 * v) = ndO (63 + 34 * v) (nI v) (nI 0) (nI (ksN N.1)) (pvI (ksF N.1)) N.2.2.1 N.2.2.2 := by rw [hup] at hn; exact hn
  refine hz_aloadn (pc := 0) 0 (hz_dec kX11_assemble 0 rfl) rfl ?_
  refine hz_iloadn (pc := 1) 1 (hz_dec kX11_assemble 1 rfl) rfl ?_
  refine hz_xV (pc := 2) (a := 8) (As := [.int (nI v)]) (st := []) (hz_dec kX11_assemble 2 rfl) co_X11_162 im_X11_nodeOf se_X11_nodeOf rfl hH (by omega) (by omega) (c_nOf hz63 hH hnn hNs (b := v) hv) rfl (by decide) ⟨Nat.le_refl _, Nat.le_refl _⟩ (Nat.le_of_ble_eq_true rfl) rfl ?_
  refine hz_astore (pc := 5) (i := 5) (lo2 := [(5, .ref (63 + 34 * v)), (0, .ref 8), (1, .int (nI v)), (2, .long sd), (4, .int tm)]) (hz_dec kX11_assemble 3 rfl) (by decide) rfl ?_
  refine hz_aload (pc := 7) 0 (hz_dec kX11_assemble 4 rfl) rfl ?_
  refine hz_ifnonnull (pc := 9) (tgt := 14) (hz_dec kX11_assemble 5 rfl) (by decide) ?_
  refine hz_aload (pc := 14) 0 (hz_dec kX11_assemble 8 rfl) rfl ?_
  refine hz_get (pc := 16) (hz_dec kX11_assemble 9 rfl) fo_X11_166 hn (by omega) (by omega) rfl ?_
  refine hz_z_ne (pc := 19) (tgt := 25) (hz_dec kX11_assemble 10 rfl) (by decide) (by omega) (fun hq1 => ?_) (fun hq1 => ?_)
  · skip
    exact absurd hq1 (by decide)
  · skip
    refine hz_bipush (pc := 22) (v := (-2)) (hz_dec kX11_assemble 11 rfl) (by decide) ?_
    exact hz_iret (pc := 24) (hz_dec kX11_assemble 12 rfl) rfl (hcP.no hR _)
set_option maxHeartbeats 4000000 in
set_option maxRecDepth 100000 in
theorem c_rassembleD {κ : hz_C} {z B : Nat} {M : hz_M} {H : ho_H} (hnn : (hoN H).length ≤ 6) (hT4 : (hoT H).length ≤ 4000) (hR : hmR M z B H) {v : Nat} (hv : v < (hoN H).length) {N : nd_N} (hN : ndL (hoN H) v = N) {sd : Int64} {tm : Int32} (hup : N.2.1 = false) : hz_Mt κ xX12_assemble 8 0 0 [.ref B, .int (nI v), .long sd, .int tm] z M (hmP M z B (.int (-2)) H) := by
  refine hz_ent (lo := [(0, .ref B), (1, .int (nI v)), (2, .long sd), (4, .int tm)]) (by decide) (Nat.le_of_ble_eq_true rfl) rfl ?_
  obtain ⟨hk0_, hE0, ⟨m1, m2, m3⟩, hNd, a5, a6, a7, a8⟩ := id hR
  obtain ⟨⟨fs, hO, hF⟩, -, -, h8, hz⟩ := id hk0_
  obtain ⟨x1, x3, x4, x5, x6, x7, x8⟩ := id m3
  have eSt : stI (ndL (hoN H) v).2.1 = (-2) := by rw [hN, hup]; rfl
  refine hz_aloadn (pc := 0) 0 (hz_dec kX12_assemble 0 rfl) rfl ?_
  refine hz_iconst (pc := 1) (v := nI 0) (hz_dec kX12_assemble 1 rfl) (by decide) ?_
  refine hz_puti (pc := 2) (hz_dec kX12_assemble 2 rfl) fo_X12_302 ft_X12_0 hO h8 (by omega) (by rw [hF.1]; decide) ?_
  have hf1 : mfr B [0, 89] [] M (va_up M B (.inr (12, (List.set fs 0 (.int (nI 0)))))) := (mfr.rf ⟨fs, hO, hF⟩).upO (k := 0) hO hF rfl rfl
  have hR1 : hmR (va_up M B (.inr (12, (List.set fs 0 (.int (nI 0)))))) z B H := hR.m0 hf1 hE0.upO ((fdB_of (va_up_self _ _ _) 89).trans ((List.getElem?_set_ne (by decide)).trans ((fdB_of hO 89).symm.trans x8)))
  generalize (va_up M B (.inr (12, (List.set fs 0 (.int (nI 0)))))) = M1 at *
  obtain ⟨hk1, hE1, ⟨n1, d1, q1⟩, hNd1, a51, a61, a71, a81⟩ := id hR1
  obtain ⟨⟨fs1, hO1, hF1⟩, -, -, -, -⟩ := id hk1
  refine hz_aloadn (pc := 5) 0 (hz_dec kX12_assemble 3 rfl) rfl ?_
  refine hz_iloadn (pc := 6) 1 (hz_dec kX12_assemble 4 rfl) rfl ?_
  refine hz_xV (pc := 7) (a := B) (As := [.int (nI v)]) (st := []) (hz_dec kX12_assemble 5 rfl) co_X12_692 im_X12_stateOf se_X12_stateOf rfl hO1 h8 (by omega) (c_st hnn hR1 hv) rfl (by decide) ⟨Nat.le_refl _, Nat.le_refl _⟩ (Nat.le_of_ble_eq_true rfl) rfl ?_
  refine hz_eqi (pc := 10) eSt ?_
  refine hz_istore (pc := 10) (i := 5) (lo2 := [(5, .int (-2)), (0, .ref B), (1, .int (nI v)), (2, .long sd), (4, .int tm)]) (hz_dec kX12_assemble 6 rfl) (by decide) rfl ?_
  refine hz_iload (pc := 12) 0 (hz_dec kX12_assemble 7 rfl) rfl ?_
  refine hz_if_ge (pc := 14) (tgt := 20) (hz_dec kX12_assemble 8 rfl) (by decide) (fun hq1 => ?_) (fun hq1 => ?_)
  · skip
    exact absurd hq1 (by decide)
  · skip
    refine hz_iload (pc := 17) 0 (hz_dec kX12_assemble 9 rfl) rfl ?_
    exact hz_iret (pc := 19) (hz_dec kX12_assemble 10 rfl) rfl ⟨rfl, rfl, hf1.S rfl, hR1⟩
set_option maxHeartbeats 4000000 in
set_option maxRecDepth 100000 in
theorem c_as_l {κ : hz_C} {z : Nat} {M0 : hz_M} {H : ho_H} (hz : 63 + 34 * (hoN H).length ≤ z) (hnn : (hoN H).length ≤ 6) {v : Nat} (hv : v < (hoN H).length) {N : nd_N} (hN : ndL (hoN H) v = N) (hI : ksI N.1) {sd : Int64} {tm : Int32} {ll : Nat} {fr kn : Int32} {P : hz_P} (K : ∀ M g, frS [(8, 63 + 34 * (hoN H).length)] M0 M → hcR M z (hot H (cutL (g) 0 (hoT H).length) (hoE H)) ll fr kn → M 56 = .inl (1, 4000, .inl g) → asG N tm g → isA g 103 (cgX (ksP N.1) (cgN (ksP N.1))) → (∃ ch : Nat → Int32, M (63 + 34 * v + 14) = .inl (0, 7, .inl ch) ∧ ∀ i, i < cgN (ksP N.1) → ch i = nI (cgK (poV (ksP N.1)) (ksP N.1).length i)) → hz_W κ xX11_assemble 6 0 0 P 0 0 239 [(11, .int (nI (103 + (cgX (ksP N.1) (cgN (ksP N.1))).length))), (9, .long (cgF (poV (ksP N.1)) (ksP N.1).length (cgN (ksP N.1)))), (8, .int (nI (cgN (ksP N.1)))), (7, .int (nI (eH (enB (ksB N.1)) (ksT N.1) + 1))), (5, .ref (63 + 34 * v)), (0, .ref 8), (2, .long sd)] [] z M) : ∀ j i M g, j = cgN (ksP N.1) - i → i ≤ cgN (ksP N.1) → frS [(8, 63 + 34 * (hoN H).length)] M0 M → hcR M z (hot H (cutL (g) 0 (hoT H).length) (hoE H)) ll fr kn → M 56 = .inl (1, 4000, .inl g) → asG N tm g → isA g 103 (cgX (ksP N.1) i) → (∃ ch : Nat → Int32, M (63 + 34 * v + 14) = .inl (0, 7, .inl ch) ∧ ∀ i, i < cgN (ksP N.1) → ch i = nI (cgK (poV (ksP N.1)) (ksP N.1).length i)) → hz_W κ xX11_assemble 6 0 0 P 0 0 150 [(12, .int (nI i)), (11, .int (nI (103 + (cgX (ksP N.1) i).length))), (9, .long (cgF (poV (ksP N.1)) (ksP N.1).length i)), (8, .int (nI (cgN (ksP N.1)))), (7, .int (nI (eH (enB (ksB N.1)) (ksT N.1) + 1))), (5, .ref (63 + 34 * v)), (0, .ref 8), (2, .long sd)] [] z M := by
  intro j
  induction j using Nat.strongRecOn with
  | ind j ih =>
  intro i M g hj hi hf hR h56 hG hX hch
  obtain ⟨ch, h14, hchx⟩ := id hch
  have hn7 : cgN (ksP N.1) ≤ 7 := Nat.min_le_left _ _
  have hnl : cgN (ksP N.1) ≤ (ksP N.1).length := Nat.min_le_right _ _
  have hpw := hI.2.2.2.1
  have hp16 := hpw.1
  have hxl := cgX_len hpw i (by omega)
  have hH : M 8 = hoO (hoT H).length (hoE H) := by have q := hR.1; rw [show (hoT (hot H (cutL (g) 0 (hoT H).length) (hoE H))).length = (hoT H).length from cutL_len _ _ _] at q; exact q
  have hK : ndR M (63 + 34 * v) v N := by have q := hR.2.2.1 v hv; rw [show ndL (hoN (hot H (cutL (g) 0 (hoT H).length) (hoE H))) v = N from hN] at q; exact q
  obtain ⟨hn, ⟨gd, hgd, hgD⟩, hT, hC, hP, hL⟩ := id hK
  have hpO := hP.1.1
  rw [List.length_map] at hpO
  obtain ⟨fB, gB, hfB, hgB, hxB⟩ := id hP.1.2.2.2
  obtain ⟨ff, hff, hfx⟩ := id hP.2
  refine hz_iload (pc := 150) 0 (hz_dec kX11_assemble 75 rfl) rfl ?_
  refine hz_iload (pc := 152) 3 (hz_dec kX11_assemble 76 rfl) rfl ?_
  refine hz_n_ge (pc := 154) (tgt := 239) (hz_dec kX11_assemble 77 rfl) (by decide) (by omega) (by omega) (fun h1 => ?_) (fun h1 => ?_)
  · skip
    have e : i = cgN (ksP N.1) := by omega
    subst e
    refine hz_pick (pc := 239) [1, 2, 3, 4, 5, 6, 7] rfl ?_
    exact K M g hf hR h56 hG hX hch
  · skip
    have hck := (cg_k (fee := poV (ksP N.1)) (show i < (ksP N.1).length by omega)).2.1
    have hkL : cgK (poV (ksP N.1)) (ksP N.1).length i < ((ksP N.1).map Prod.fst).length := by rw [List.length_map]; exact hck
    have hg1 : gB (cgK (poV (ksP N.1)) (ksP N.1).length i) = nI (offL ((ksP N.1).map Prod.fst) (cgK (poV (ksP N.1)) (ksP N.1).length i)) := hxB.1 _ (by omega)
    have hoo : offL ((ksP N.1).map Prod.fst) (cgK (poV (ksP N.1)) (ksP N.1).length i) + (poL (ksP N.1) (cgK (poV (ksP N.1)) (ksP N.1).length i)).length ≤ 5728 := by have r := offL_mono ((ksP N.1).map Prod.fst) ((ksP N.1).map Prod.fst).length (cgK (poV (ksP N.1)) (ksP N.1).length i + 1) (by omega); simp only [offL] at r; rw [rowL_po] at r; have r2 := hP.1.2.2.1; omega
    have hAi : isA fB (offL ((ksP N.1).map Prod.fst) (cgK (poV (ksP N.1)) (ksP N.1).length i)) (poL (ksP N.1) (cgK (poV (ksP N.1)) (ksP N.1).length i)) := by have q := hxB.2 _ hkL; rw [rowL_po] at q; exact q
    have htl := (txW_len (hpw.2 _ hck).1).2
    refine hz_aload (pc := 157) 5 (hz_dec kX11_assemble 78 rfl) rfl ?_
    refine hz_get (pc := 159) (hz_dec kX11_assemble 79 rfl) fo_X11_254 hn (by omega) (by omega) rfl ?_
    refine hz_iload (pc := 162) 0 (hz_dec kX11_assemble 80 rfl) rfl ?_
    refine hz_iald (pc := 164) (j := i) (hz_dec kX11_assemble 81 rfl) h14 (by omega) (by omega) rfl (by omega) (by decide) ?_
    refine hz_eqi (pc := 165) (hchx i h1) ?_
    refine hz_istore (pc := 165) (i := 13) (lo2 := [(13, .int (nI (cgK (poV (ksP N.1)) (ksP N.1).length i))), (12, .int (nI i)), (11, .int (nI (103 + (cgX (ksP N.1) i).length))), (9, .long (cgF (poV (ksP N.1)) (ksP N.1).length i)), (8, .int (nI (cgN (ksP N.1)))), (7, .int (nI (eH (enB (ksB N.1)) (ksT N.1) + 1))), (5, .ref (63 + 34 * v)), (0, .ref 8), (2, .long sd)]) (hz_dec kX11_assemble 82 rfl) (by decide) rfl ?_
    refine hz_aload (pc := 167) 6 (hz_dec kX11_assemble 83 rfl) rfl ?_
    refine hz_get (pc := 169) (hz_dec kX11_assemble 84 rfl) fo_X11_257 hn (by omega) (by omega) rfl ?_
    refine hz_get (pc := 172) (hz_dec kX11_assemble 85 rfl) fo_X11_225 hpO (by omega) (by omega) rfl ?_
    refine hz_aload (pc := 175) 6 (hz_dec kX11_assemble 86 rfl) rfl ?_
    refine hz_get (pc := 177) (hz_dec kX11_assemble 87 rfl) fo_X11_257 hn (by omega) (by omega) rfl ?_
    refine hz_get (pc := 180) (hz_dec kX11_assemble 88 rfl) fo_X11_228 hpO (by omega) (by omega) rfl ?_
    refine hz_iload (pc := 183) 0 (hz_dec kX11_assemble 89 rfl) rfl ?_
    refine hz_iald (pc := 185) (j := cgK (poV (ksP N.1)) (ksP N.1).length i) (hz_dec kX11_assemble 90 rfl) hgB (by omega) (by omega) rfl (by omega) (by decide) ?_
    refine hz_eqi (pc := 186) hg1 ?_
    refine hz_aloadn (pc := 186) 7 (hz_dec kX11_assemble 91 rfl) rfl ?_
    refine hz_get (pc := 187) (hz_dec kX11_assemble 92 rfl) fo_X11_72 hH (by omega) (by omega) rfl ?_
    refine hz_iload (pc := 190) 2 (hz_dec kX11_assemble 93 rfl) rfl ?_
    refine hz_aload (pc := 192) 6 (hz_dec kX11_assemble 94 rfl) rfl ?_
    refine hz_get (pc := 194) (hz_dec kX11_assemble 95 rfl) fo_X11_257 hn (by omega) (by omega) rfl ?_
    refine hz_iload (pc := 197) 0 (hz_dec kX11_assemble 96 rfl) rfl ?_
    refine hz_xV (pc := 199) (a := 63 + 34 * v + 10) (As := [.int (nI (cgK (poV (ksP N.1)) (ksP N.1).length i))]) (st := [.int (nI (103 + (cgX (ksP N.1) i).length)), .ref 56, .int (nI (offL ((ksP N.1).map Prod.fst) (cgK (poV (ksP N.1)) (ksP N.1).length i))), .ref (63 + 34 * v + 10 + 1)]) (hz_dec kX11_assemble 97 rfl) co_X11_221 im_X7_lengthOf se_X7_lengthOf rfl hpO (by omega) (by omega) (c_lenOf hP.1 (by omega) (by omega) (by decide) (by decide) hkL) rfl (by decide) ⟨Nat.le_refl _, Nat.le_refl _⟩ (Nat.le_of_ble_eq_true rfl) rfl ?_
    refine hz_eqi (pc := 202) (congrArg nI (congrArg List.length (rowL_po (ksP N.1) (cgK (poV (ksP N.1)) (ksP N.1).length i)))) ?_
    refine hz_xS (pc := 202) (As := [.ref (63 + 34 * v + 10 + 1), .int (nI (offL ((ksP N.1).map Prod.fst) (cgK (poV (ksP N.1)) (ksP N.1).length i))), .ref 56, .int (nI (103 + (cgX (ksP N.1) i).length)), .int (nI ((poL (ksP N.1) (cgK (poV (ksP N.1)) (ksP N.1).length i)).length))]) (st := []) (hz_dec kX11_assemble 98 rfl) co_X11_231 sc_X0_copy (c_copy (i0 := offL ((ksP N.1).map Prod.fst) (cgK (poV (ksP N.1)) (ksP N.1).length i)) (j0 := 103 + (cgX (ksP N.1) i).length) (mn := (poL (ksP N.1) (cgK (poV (ksP N.1)) (ksP N.1).length i)).length) hfB (by omega) (by omega) (by decide) h56 (by decide) (by omega) (by decide) (by omega) (by omega)) rfl (by decide) ⟨Nat.le_refl _, Nat.le_refl _⟩ (Nat.le_of_ble_eq_true rfl) rfl ?_
    refine hz_mem (pc := 205) (M2 := (va_up M 56 (.inl (1, 4000, .inl (va_cpy fB g (offL ((ksP N.1).map Prod.fst) (cgK (poV (ksP N.1)) (ksP N.1).length i)) (103 + (cgX (ksP N.1) i).length) (poL (ksP N.1) (cgK (poV (ksP N.1)) (ksP N.1).length i)).length))))) rfl ?_
    have hf1 : frS [(8, 9), (56, 57)] M (va_up M 56 (.inl (1, 4000, .inl (va_cpy fB g (offL ((ksP N.1).map Prod.fst) (cgK (poV (ksP N.1)) (ksP N.1).length i)) (103 + (cgX (ksP N.1) i).length) (poL (ksP N.1) (cgK (poV (ksP N.1)) (ksP N.1).length i)).length)))) := ((frS.rf (S := [(8, 9), (56, 57)])).upr (a := 56) (by simp only [outS, and_true]; omega))
    have hR1 : hcR (va_up M 56 (.inl (1, 4000, .inl (va_cpy fB g (offL ((ksP N.1).map Prod.fst) (cgK (poV (ksP N.1)) (ksP N.1).length i)) (103 + (cgX (ksP N.1) i).length) (poL (ksP N.1) (cgK (poV (ksP N.1)) (ksP N.1).length i)).length)))) z (hot H (cutL (va_cpy fB g (offL ((ksP N.1).map Prod.fst) (cgK (poV (ksP N.1)) (ksP N.1).length i)) (103 + (cgX (ksP N.1) i).length) (poL (ksP N.1) (cgK (poV (ksP N.1)) (ksP N.1).length i)).length) 0 (hoT H).length) (hoE H)) ll fr kn := hcR.t (H := (hot H (cutL (g) 0 (hoT H).length) (hoE H))) hR hf1 (by rw [cutL_len]; exact hz_mne hH (by decide)) ⟨_, va_up_self _ _ _, isA_cut _ _ _⟩
    have hG1 : asG N tm (va_cpy fB g (offL ((ksP N.1).map Prod.fst) (cgK (poV (ksP N.1)) (ksP N.1).length i)) (103 + (cgX (ksP N.1) i).length) (poL (ksP N.1) (cgK (poV (ksP N.1)) (ksP N.1).length i)).length) := hG.o (fun q hq => cpy_o (by omega))
    have hX1 : isA (va_cpy fB g (offL ((ksP N.1).map Prod.fst) (cgK (poV (ksP N.1)) (ksP N.1).length i)) (103 + (cgX (ksP N.1) i).length) (poL (ksP N.1) (cgK (poV (ksP N.1)) (ksP N.1).length i)).length) 103 (cgX (ksP N.1) (i + 1)) := cgX_cp hX hAi
    have hP1 : rwR (va_up M 56 (.inl (1, 4000, .inl (va_cpy fB g (offL ((ksP N.1).map Prod.fst) (cgK (poV (ksP N.1)) (ksP N.1).length i)) (103 + (cgX (ksP N.1) i).length) (poL (ksP N.1) (cgK (poV (ksP N.1)) (ksP N.1).length i)).length)))) (63 + 34 * v + 10) 5728 16 ((ksP N.1).map Prod.fst) := hP.1.fr (fun q q1 q2 => va_up_ne _ _ (by omega))
    have hlx : 103 + (cgX (ksP N.1) (i + 1)).length = 103 + (cgX (ksP N.1) i).length + (poL (ksP N.1) (cgK (poV (ksP N.1)) (ksP N.1).length i)).length := by show 103 + (cgX (ksP N.1) i ++ poL (ksP N.1) (cgK (poV (ksP N.1)) (ksP N.1).length i)).length = _; rw [List.length_append]; omega
    refine hz_iload (pc := 205) 2 (hz_dec kX11_assemble 99 rfl) rfl ?_
    refine hz_aload (pc := 207) 6 (hz_dec kX11_assemble 100 rfl) rfl ?_
    refine hz_get (pc := 209) (hz_dec kX11_assemble 101 rfl) fo_X11_257 (hz_mne hn (by omega)) (by omega) (by omega) rfl ?_
    refine hz_iload (pc := 212) 0 (hz_dec kX11_assemble 102 rfl) rfl ?_
    refine hz_xV (pc := 214) (a := 63 + 34 * v + 10) (As := [.int (nI (cgK (poV (ksP N.1)) (ksP N.1).length i))]) (st := [.int (nI (103 + (cgX (ksP N.1) i).length))]) (hz_dec kX11_assemble 103 rfl) co_X11_221 im_X7_lengthOf se_X7_lengthOf rfl (hz_mne hpO (by omega)) (by omega) (by omega) (c_lenOf hP1 (by omega) (by omega) (by decide) (by decide) hkL) rfl (by decide) ⟨Nat.le_refl _, Nat.le_refl _⟩ (Nat.le_of_ble_eq_true rfl) rfl ?_
    refine hz_eqi (pc := 217) (congrArg nI (congrArg List.length (rowL_po (ksP N.1) (cgK (poV (ksP N.1)) (ksP N.1).length i)))) ?_
    refine hz_addN (pc := 217) (hz_dec kX11_assemble 104 rfl) ?_
    refine hz_eqi (pc := 218) (congrArg nI hlx.symm) ?_
    refine hz_istore (pc := 218) (i := 11) (lo2 := [(11, .int (nI (103 + (cgX (ksP N.1) (i + 1)).length))), (13, .int (nI (cgK (poV (ksP N.1)) (ksP N.1).length i))), (12, .int (nI i)), (9, .long (cgF (poV (ksP N.1)) (ksP N.1).length i)), (8, .int (nI (cgN (ksP N.1)))), (7, .int (nI (eH (enB (ksB N.1)) (ksT N.1) + 1))), (5, .ref (63 + 34 * v)), (0, .ref 8), (2, .long sd)]) (hz_dec kX11_assemble 105 rfl) (by decide) rfl ?_
    refine hz_lload (pc := 220) 3 (hz_dec kX11_assemble 106 rfl) rfl ?_
    refine hz_aload (pc := 222) 6 (hz_dec kX11_assemble 107 rfl) rfl ?_
    refine hz_get (pc := 224) (hz_dec kX11_assemble 108 rfl) fo_X11_260 (hz_mne hn (by omega)) (by omega) (by omega) rfl ?_
    refine hz_iload (pc := 227) 1 (hz_dec kX11_assemble 109 rfl) rfl ?_
    refine hz_lald (pc := 229) (j := cgK (poV (ksP N.1)) (ksP N.1).length i) (hz_dec kX11_assemble 110 rfl) (hz_mne hff (by omega)) (by omega) (by omega) rfl (by omega) (by decide) ?_
    refine hz_eql (pc := 230) (hfx _ hck) ?_
    refine hz_ladd (pc := 230) (hz_dec kX11_assemble 111 rfl) ?_
    refine hz_lstore (pc := 231) (i := 9) (lo2 := [(9, .long ((cgF (poV (ksP N.1)) (ksP N.1).length i) + (poV (ksP N.1) (cgK (poV (ksP N.1)) (ksP N.1).length i)))), (11, .int (nI (103 + (cgX (ksP N.1) (i + 1)).length))), (13, .int (nI (cgK (poV (ksP N.1)) (ksP N.1).length i))), (12, .int (nI i)), (8, .int (nI (cgN (ksP N.1)))), (7, .int (nI (eH (enB (ksB N.1)) (ksT N.1) + 1))), (5, .ref (63 + 34 * v)), (0, .ref 8), (2, .long sd)]) (hz_dec kX11_assemble 112 rfl) (by decide) rfl ?_
    refine hz_incN (pc := 233) (i := 12) (lo2 := [(12, .int (nI (i + 1))), (9, .long ((cgF (poV (ksP N.1)) (ksP N.1).length i) + (poV (ksP N.1) (cgK (poV (ksP N.1)) (ksP N.1).length i)))), (11, .int (nI (103 + (cgX (ksP N.1) (i + 1)).length))), (13, .int (nI (cgK (poV (ksP N.1)) (ksP N.1).length i))), (8, .int (nI (cgN (ksP N.1)))), (7, .int (nI (eH (enB (ksB N.1)) (ksT N.1) + 1))), (5, .ref (63 + 34 * v)), (0, .ref 8), (2, .long sd)]) 3 (hz_dec kX11_assemble 113 rfl) rfl (by decide) rfl ?_
    refine hz_goto (pc := 236) (tgt := 150) (hz_dec kX11_assemble 114 rfl) (by decide) ?_
    refine hz_pick (pc := 150) [0, 2, 1, 4, 5, 6, 7, 8] rfl ?_
    exact ih (cgN (ksP N.1) - (i + 1)) (by omega) (i + 1) _ _ rfl (by omega) (hf.tr (hf1.mono (fun q (h9 : outS [(8, 63 + 34 * (hoN H).length)] q) => ⟨by have r := h9.1; omega, by have r := h9.1; omega, trivial⟩))) hR1 (va_up_self _ _ _) hG1 hX1 ⟨ch, hz_mne h14 (by omega), hchx⟩
