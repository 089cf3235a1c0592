/-! up: the class, whole -/
set_option maxHeartbeats 4000000 in
set_option maxRecDepth 100000 in
theorem c_upN {κ : hz_C} {z : Nat} {M : hz_M} {H : ho_H} (hz : 63 + 34 * (hoN H).length ≤ z) (hnn : (hoN H).length ≤ 6) (hT4 : (hoT H).length ≤ 4000) {ll : Nat} {fr kn : Int32} (hR : hcR M z H ll fr kn) {v : Int32}  (hv : v < 0 ∨ ¬ v < nI (hoN H).length) : hz_Mt κ xX11_up 7 0 0 [.ref 8, .int v] z M (hcP M z H (.int (-1)) H) := by
  refine hz_ent (lo := [(0, .ref 8), (1, .int v)]) (by decide) (Nat.le_of_ble_eq_true rfl) rfl ?_
  have hH := hR.1
  have hNs := hR.2.1
  obtain ⟨hO, hQ, hD⟩ := id hR.2.2.2.2.1
  obtain ⟨g53, h53⟩ := hR.2.2.2.2.2.1
  have hJ := hR.2.2.2.1
  obtain ⟨g56, h56, hT56⟩ := hR.2.2.2.2.2.2.2.2.2.1
  have hdf := hR.2.2.2.2.2.2.2.2.2.2
  have hck : ck_k M z := hJ.2.2.2.2.2.2.2.1
  have hcs : ck_s M := hJ.2.2.2.2.2.2.2.2.1
  have hz63 : 63 ≤ z := by omega
  refine hz_aloadn (pc := 0) 0 (hz_dec kX11_up 0 rfl) rfl ?_
  refine hz_iloadn (pc := 1) 1 (hz_dec kX11_up 1 rfl) rfl ?_
  refine hz_xV (pc := 2) (a := 8) (As := [.int v]) (st := []) (hz_dec kX11_up 2 rfl) co_X11_162 im_X11_nodeOf se_X11_nodeOf rfl hH (by omega) (by omega) (c_nOfN hz63 hH hnn hNs hv) rfl (by decide) ⟨Nat.le_refl _, Nat.le_refl _⟩ (Nat.le_of_ble_eq_true rfl) rfl ?_
  refine hz_astorenN (pc := 5) (i := 2) (lo2 := [(2, .null), (0, .ref 8), (1, .int v)]) (hz_dec kX11_up 3 rfl) rfl (by decide) rfl ?_
  refine hz_aloadnN (pc := 6) 0 (hz_dec kX11_up 4 rfl) rfl ?_
  refine hz_ifnonnullN (pc := 7) (hz_dec kX11_up 5 rfl) ?_
  refine hz_iconst (pc := 10) (v := (-1)) (hz_dec kX11_up 6 rfl) (by decide) ?_
  exact hz_iret (pc := 11) (hz_dec kX11_up 7 rfl) rfl (hcP.no hR _)
set_option maxHeartbeats 4000000 in
set_option maxRecDepth 100000 in
theorem c_rupN {κ : hz_C} {z B : Nat} {M : hz_M} {H : ho_H} (hnn : (hoN H).length ≤ 6) (hT4 : (hoT H).length ≤ 4000) (hR : hmR M z B H) {v : Int32}  (hv : v < 0 ∨ ¬ v < nI (hoN H).length) : hz_Mt κ xX12_up 11 0 0 [.ref B, .int v] z M (hmP M z B (.int (-1)) H) := by
  refine hz_ent (lo := [(0, .ref B), (1, .int v)]) (by decide) (Nat.le_of_ble_eq_true rfl) rfl ?_
  obtain ⟨hk0_, hE0, ⟨m1, m2, m3⟩, hNd, a5, a6, a7, a8⟩ := id hR
  obtain ⟨⟨fs, hO, hF⟩, -, -, h8, hz⟩ := id hk0_
  obtain ⟨x1, x3, x4, x5, x6, x7, x8⟩ := id m3
  refine hz_aloadn (pc := 0) 0 (hz_dec kX12_up 0 rfl) rfl ?_
  refine hz_iconst (pc := 1) (v := nI 0) (hz_dec kX12_up 1 rfl) (by decide) ?_
  refine hz_puti (pc := 2) (hz_dec kX12_up 2 rfl) fo_X12_302 ft_X12_0 hO h8 (by omega) (by rw [hF.1]; decide) ?_
  have hf1 : mfr B [0, 89] [] M (va_up M B (.inr (12, (List.set fs 0 (.int (nI 0)))))) := (mfr.rf ⟨fs, hO, hF⟩).upO (k := 0) hO hF rfl rfl
  have hR1 : hmR (va_up M B (.inr (12, (List.set fs 0 (.int (nI 0)))))) z B H := hR.m0 hf1 hE0.upO ((fdB_of (va_up_self _ _ _) 89).trans ((List.getElem?_set_ne (by decide)).trans ((fdB_of hO 89).symm.trans x8)))
  generalize (va_up M B (.inr (12, (List.set fs 0 (.int (nI 0)))))) = M1 at *
  obtain ⟨hk1, hE1, ⟨n1, d1, q1⟩, hNd1, a51, a61, a71, a81⟩ := id hR1
  obtain ⟨⟨fs1, hO1, hF1⟩, -, -, -, -⟩ := id hk1
  refine hz_aloadn (pc := 5) 0 (hz_dec kX12_up 3 rfl) rfl ?_
  refine hz_iloadn (pc := 6) 1 (hz_dec kX12_up 4 rfl) rfl ?_
  refine hz_xV (pc := 7) (a := B) (As := [.int v]) (st := []) (hz_dec kX12_up 5 rfl) co_X12_692 im_X12_stateOf se_X12_stateOf rfl hO1 h8 (by omega) (c_stN hnn hR1 hv) rfl (by decide) ⟨Nat.le_refl _, Nat.le_refl _⟩ (Nat.le_of_ble_eq_true rfl) rfl ?_
  refine hz_istoren (pc := 10) (i := 2) (lo2 := [(2, .int (-1)), (0, .ref B), (1, .int v)]) (hz_dec kX12_up 6 rfl) rfl (by decide) rfl ?_
  refine hz_iloadn (pc := 11) 0 (hz_dec kX12_up 7 rfl) rfl ?_
  refine hz_bipush (pc := 12) (v := (-2)) (hz_dec kX12_up 8 rfl) (by decide) ?_
  refine hz_icmp_eq (pc := 14) (tgt := 29) (hz_dec kX12_up 9 rfl) (by decide) (fun hq1 => ?_) (fun hq1 => ?_)
  · skip
    exact absurd hq1 (by decide)
  · skip
    refine hz_iloadn (pc := 17) 0 (hz_dec kX12_up 10 rfl) rfl ?_
    refine hz_iconst (pc := 18) (v := (-1)) (hz_dec kX12_up 11 rfl) (by decide) ?_
    refine hz_icmp_ne (pc := 19) (tgt := 26) (hz_dec kX12_up 12 rfl) (by decide) (fun hq2 => ?_) (fun hq2 => ?_)
    · skip
      exact absurd hq2 (by decide)
    · skip
      refine hz_iconst (pc := 22) (v := (-1)) (hz_dec kX12_up 13 rfl) (by decide) ?_
      refine hz_goto (pc := 23) (tgt := 28) (hz_dec kX12_up 14 rfl) (by decide) ?_
      exact hz_iret (pc := 28) (hz_dec kX12_up 16 rfl) rfl ⟨rfl, rfl, hf1.S rfl, hR1⟩
set_option maxHeartbeats 4000000 in
set_option maxRecDepth 100000 in
theorem c_upU {κ : hz_C} {z : Nat} {M : hz_M} {H : ho_H} (hz : 63 + 34 * (hoN H).length ≤ z) (hnn : (hoN H).length ≤ 6) (hT4 : (hoT H).length ≤ 4000) {ll : Nat} {fr kn : Int32} (hR : hcR M z H ll fr kn) {v : Nat} (hv : v < (hoN H).length) {N : nd_N} (hN : ndL (hoN H) v = N) (hup : N.2.1 = true) : hz_Mt κ xX11_up 7 0 0 [.ref 8, .int (nI v)] z M (hcP M z H (.int (-4)) H) := by
  refine hz_ent (lo := [(0, .ref 8), (1, .int (nI v))]) (by decide) (Nat.le_of_ble_eq_true rfl) rfl ?_
  have hH := hR.1
  have hNs := hR.2.1
  obtain ⟨hO, hQ, hD⟩ := id hR.2.2.2.2.1
  obtain ⟨g53, h53⟩ := hR.2.2.2.2.2.1
  have hJ := hR.2.2.2.1
  obtain ⟨g56, h56, hT56⟩ := hR.2.2.2.2.2.2.2.2.2.1
  have hdf := hR.2.2.2.2.2.2.2.2.2.2
  have hck : ck_k M z := hJ.2.2.2.2.2.2.2.1
  have hcs : ck_s M := hJ.2.2.2.2.2.2.2.2.1
  have hz63 : 63 ≤ z := by omega
  have hK := hR.2.2.1 v hv
  rw [hN] at hK
  obtain ⟨hn, ⟨gd, hgd, hgD⟩, hT, hC, hP, hL⟩ := id hK
  have hn : M (63 + 34 * v) = ndO (63 + 34 * v) (nI v) (nI 1) (nI (ksN N.1)) (pvI (ksF N.1)) N.2.2.1 N.2.2.2 := by rw [hup] at hn; exact hn
  refine hz_aloadn (pc := 0) 0 (hz_dec kX11_up 0 rfl) rfl ?_
  refine hz_iloadn (pc := 1) 1 (hz_dec kX11_up 1 rfl) rfl ?_
  refine hz_xV (pc := 2) (a := 8) (As := [.int (nI v)]) (st := []) (hz_dec kX11_up 2 rfl) co_X11_162 im_X11_nodeOf se_X11_nodeOf rfl hH (by omega) (by omega) (c_nOf hz63 hH hnn hNs (b := v) hv) rfl (by decide) ⟨Nat.le_refl _, Nat.le_refl _⟩ (Nat.le_of_ble_eq_true rfl) rfl ?_
  refine hz_astoren (pc := 5) (i := 2) (lo2 := [(2, .ref (63 + 34 * v)), (0, .ref 8), (1, .int (nI v))]) (hz_dec kX11_up 3 rfl) rfl (by decide) rfl ?_
  refine hz_aloadn (pc := 6) 0 (hz_dec kX11_up 4 rfl) rfl ?_
  refine hz_ifnonnull (pc := 7) (tgt := 12) (hz_dec kX11_up 5 rfl) (by decide) ?_
  refine hz_aloadn (pc := 12) 0 (hz_dec kX11_up 8 rfl) rfl ?_
  refine hz_get (pc := 13) (hz_dec kX11_up 9 rfl) fo_X11_166 hn (by omega) (by omega) rfl ?_
  refine hz_z_eq (pc := 16) (tgt := 22) (hz_dec kX11_up 10 rfl) (by decide) (by omega) (fun hq1 => ?_) (fun hq1 => ?_)
  · skip
    exact absurd hq1 (by decide)
  · skip
    refine hz_bipush (pc := 19) (v := (-4)) (hz_dec kX11_up 11 rfl) (by decide) ?_
    exact hz_iret (pc := 21) (hz_dec kX11_up 12 rfl) rfl (hcP.no hR _)
set_option maxHeartbeats 4000000 in
set_option maxRecDepth 100000 in
theorem c_rupU {κ : hz_C} {z B : Nat} {M : hz_M} {H : ho_H} (hnn : (hoN H).length ≤ 6) (hT4 : (hoT H).length ≤ 4000) (hR : hmR M z B H) {v : Nat} (hv : v < (hoN H).length) {N : nd_N} (hN : ndL (hoN H) v = N) (hup : N.2.1 = true) : hz_Mt κ xX12_up 11 0 0 [.ref B, .int (nI v)] z M (hmP M z B (.int (-4)) H) := by
  refine hz_ent (lo := [(0, .ref B), (1, .int (nI v))]) (by decide) (Nat.le_of_ble_eq_true rfl) rfl ?_
  obtain ⟨hk0_, hE0, ⟨m1, m2, m3⟩, hNd, a5, a6, a7, a8⟩ := id hR
  obtain ⟨⟨fs, hO, hF⟩, -, -, h8, hz⟩ := id hk0_
  obtain ⟨x1, x3, x4, x5, x6, x7, x8⟩ := id m3
  have eSt : stI (ndL (hoN H) v).2.1 = nI 0 := by rw [hN, hup]; rfl
  refine hz_aloadn (pc := 0) 0 (hz_dec kX12_up 0 rfl) rfl ?_
  refine hz_iconst (pc := 1) (v := nI 0) (hz_dec kX12_up 1 rfl) (by decide) ?_
  refine hz_puti (pc := 2) (hz_dec kX12_up 2 rfl) fo_X12_302 ft_X12_0 hO h8 (by omega) (by rw [hF.1]; decide) ?_
  have hf1 : mfr B [0, 89] [] M (va_up M B (.inr (12, (List.set fs 0 (.int (nI 0)))))) := (mfr.rf ⟨fs, hO, hF⟩).upO (k := 0) hO hF rfl rfl
  have hR1 : hmR (va_up M B (.inr (12, (List.set fs 0 (.int (nI 0)))))) z B H := hR.m0 hf1 hE0.upO ((fdB_of (va_up_self _ _ _) 89).trans ((List.getElem?_set_ne (by decide)).trans ((fdB_of hO 89).symm.trans x8)))
  generalize (va_up M B (.inr (12, (List.set fs 0 (.int (nI 0)))))) = M1 at *
  obtain ⟨hk1, hE1, ⟨n1, d1, q1⟩, hNd1, a51, a61, a71, a81⟩ := id hR1
  obtain ⟨⟨fs1, hO1, hF1⟩, -, -, -, -⟩ := id hk1
  refine hz_aloadn (pc := 5) 0 (hz_dec kX12_up 3 rfl) rfl ?_
  refine hz_iloadn (pc := 6) 1 (hz_dec kX12_up 4 rfl) rfl ?_
  refine hz_xV (pc := 7) (a := B) (As := [.int (nI v)]) (st := []) (hz_dec kX12_up 5 rfl) co_X12_692 im_X12_stateOf se_X12_stateOf rfl hO1 h8 (by omega) (c_st hnn hR1 hv) rfl (by decide) ⟨Nat.le_refl _, Nat.le_refl _⟩ (Nat.le_of_ble_eq_true rfl) rfl ?_
  refine hz_eqi (pc := 10) eSt ?_
  refine hz_istoren (pc := 10) (i := 2) (lo2 := [(2, .int (nI 0)), (0, .ref B), (1, .int (nI v))]) (hz_dec kX12_up 6 rfl) rfl (by decide) rfl ?_
  refine hz_iloadn (pc := 11) 0 (hz_dec kX12_up 7 rfl) rfl ?_
  refine hz_bipush (pc := 12) (v := (-2)) (hz_dec kX12_up 8 rfl) (by decide) ?_
  refine hz_icmp_eq (pc := 14) (tgt := 29) (hz_dec kX12_up 9 rfl) (by decide) (fun hq1 => ?_) (fun hq1 => ?_)
  · skip
    exact absurd hq1 (by decide)
  · skip
    refine hz_iloadn (pc := 17) 0 (hz_dec kX12_up 10 rfl) rfl ?_
    refine hz_iconst (pc := 18) (v := (-1)) (hz_dec kX12_up 11 rfl) (by decide) ?_
    refine hz_icmp_ne (pc := 19) (tgt := 26) (hz_dec kX12_up 12 rfl) (by decide) (fun hq2 => ?_) (fun hq2 => ?_)
    · skip
      refine hz_bipush (pc := 26) (v := (-4)) (hz_dec kX12_up 15 rfl) (by decide) ?_
      exact hz_iret (pc := 28) (hz_dec kX12_up 16 rfl) rfl ⟨rfl, rfl, hf1.S rfl, hR1⟩
    · skip
      exact absurd hq2 (by decide)
theorem hcR.u {M M2 : hz_M} {z : Nat} {H : ho_H} {ll ll2 : Nat} {fr kn : Int32} (h : hcR M z H ll fr kn) {v : Nat} (hv : v < (hoN H).length) (f : frS [(9, 39), (45, 46), (53, 54), (63 + 34 * v, 63 + 34 * v + 34)] M M2) (h45n : M2 45 = mlO (hoN H).length (hoW H) (hoQ H).2 ll2 fr kn) (h53n : ∃ g : Nat → Int32, M2 53 = .inl (1, 4000, .inl g)) (hj : juS M2 z) {N : nd_N} (hn : ndR M2 (63 + 34 * v) v N) : hcR M2 z (hoS H v N (hoQ H)) ll2 fr kn := by
  obtain ⟨h1, ⟨fN, n1, n2⟩, h3, h4, ⟨h45, hQ, fd, d1, d2⟩, h6, ⟨L, h7⟩, ⟨g8, h8⟩, ⟨g9, h9⟩, ⟨g56, h56, hT56⟩, hdf⟩ := h
  have hl : (hoN (hoS H v N (hoQ H))).length = (hoN H).length := List.length_set
  refine ⟨(f.at4 (by omega)).trans h1, ⟨fN, by rw [hl]; exact (f.at4 (by omega)).trans n1, by rw [hl]; exact n2⟩, fun w hw => ?_, hj, ⟨by rw [hl]; exact h45n, hQ.fr (fun q q1 q2 => f.at4 (by omega)), fd, (f.at4 (by omega)).trans d1, d2⟩, h53n, ⟨L, h7.fr (fun q q1 q2 => f.at4 (by omega))⟩, ⟨g8, (f.at4 (by omega)).trans h8⟩, ⟨g9, (f.at4 (by omega)).trans h9⟩, ⟨g56, (f.at4 (by omega)).trans h56, hT56⟩, hdf.fr (fun q q1 q2 => f.at4 (by omega))⟩
  rw [hl] at hw
  rw [show ndL (hoN (hoS H v N (hoQ H))) w = if w = v then N else ndL (hoN H) w from ndL_set hv w]
  by_cases c : w = v
  · rw [if_pos c, c]; exact hn
  · rw [if_neg c]; exact (h3 w hw).fr (fun q q1 q2 => f.at4 (by omega))
set_option maxHeartbeats 4000000 in
set_option maxRecDepth 100000 in
theorem c_up_l {κ : hz_C} {z : Nat} {M0 : hz_M} {H : ho_H} (hz : 63 + 34 * (hoN H).length ≤ z) (hnn : (hoN H).length ≤ 6) {ll0 : Nat} {fr kn : Int32} (hR : hcR M0 z H ll0 fr kn) {v : Nat} (hv : v < (hoN H).length) {N : nd_N} (hN : ndL (hoN H) v = N) : ∀ m k S M ll, m + k = 113 → 1 ≤ k → frS [(9, 39), (45, 46), (53, 54), (63 + 34 * v, 63 + 34 * v + 34)] M0 M → M 45 = mlO (hoN H).length (hoW H) (hoQ H).2 ll fr kn → (∃ g : Nat → Int32, M 53 = .inl (1, 4000, .inl g)) → juS M z → upC M (63 + 34 * v) v N S → blI (ksB S) (ksN S) → ksT S < (ksB S).length → ksD S = ksD N.1 → upR m S = upK N → hz_W κ xX11_up 7 0 0 (hcP M0 z H (.int (nI (ksB (upK N)).length)) (hoS H v (upN N) (hoQ H))) 0 0 36 [(3, .int (nI k)), (0, .ref 8), (2, .ref (63 + 34 * v))] [] z M := by
  intro m
  induction m with
  | zero =>
    intro k S M ll hk hk1 hf h45 h53 hJ hU hI ht hDD hE
    have hE : S = upK N := hE
    refine hz_iloadn (pc := 36) 0 (hz_dec kX11_up 21 rfl) rfl ?_
    refine hz_bipush (pc := 37) (v := nI 113) (hz_dec kX11_up 22 rfl) (by decide) ?_
    refine hz_n_ge (pc := 39) (tgt := 59) (hz_dec kX11_up 23 rfl) (by decide) (by omega) (by omega) (fun h1 => ?_) (fun h1 => ?_)
    · skip
      have hn0 := hU.1
      refine hz_aloadn (pc := 59) 2 (hz_dec kX11_up 31 rfl) rfl ?_
      obtain ⟨u1, ⟨g, u2, u3⟩, u4, ⟨cs, u5⟩, u6, u7⟩ := id hU
      refine hz_callV (pc := 60) (a := 63 + 34 * v) (As := []) (st := []) (hz_dec kX11_up 32 rfl) co_X11_121 im_X6_forget se_X6_forget rfl hn0 (by omega) (by omega) (c_fgt (N := N) (by omega) (by omega) u1 u4 u5 u6 u7 hI ht) rfl (by decide) ⟨Nat.le_refl _, Nat.le_refl _⟩ (Nat.le_of_ble_eq_true rfl) rfl (fun r9 z9 M1 hp9 => ?_)
      obtain ⟨rfl, rfl, hf1, hn1, hd1, hT1, hc1, hp1, hL1⟩ := hp9
      have htO := hT1.1
      have htR := hT1.2.1.1
      rw [List.length_map] at htR
      refine hz_aloadn (pc := 63) 2 (hz_dec kX11_up 33 rfl) rfl ?_
      refine hz_iconst (pc := 64) (v := nI 1) (hz_dec kX11_up 34 rfl) (by decide) ?_
      refine hz_putz (pc := 65) (hz_dec kX11_up 35 rfl) fo_X11_166 ft_X6_1 hn1 (by omega) (by omega) (Nat.le_of_ble_eq_true rfl) rfl rfl ?_
      refine hz_mem (pc := 68) (M2 := (va_up M1 (63 + 34 * v) (.inr (6, [.int (nI v), .int (nI 1), .ref (63 + 34 * v + 1), .int (nI (ksN S)), .int (-1), .ref (63 + 34 * v + 21), .ref (63 + 34 * v + 2), .ref (63 + 34 * v + 10), .ref (63 + 34 * v + 13), .ref (63 + 34 * v + 14), .ref (63 + 34 * v + 15), .ref (63 + 34 * v + 18), .int N.2.2.1, .int N.2.2.2])))) rfl ?_
      refine hz_aloadn (pc := 68) 2 (hz_dec kX11_up 36 rfl) rfl ?_
      refine hz_get (pc := 69) (hz_dec kX11_up 37 rfl) fo_X11_104 (va_up_self _ _ _) (by omega) (by omega) rfl ?_
      refine hz_get (pc := 72) (hz_dec kX11_up 38 rfl) fo_X11_217 (hz_mne htO (by omega)) (by omega) (by omega) rfl ?_
      refine hz_get (pc := 75) (hz_dec kX11_up 39 rfl) fo_X11_220 (hz_mne htR (by omega)) (by omega) (by omega) rfl ?_
      have eS : upN N = ((ksB S, ksT S, ksN S, none, ksD N.1, [], [], ksQ N.1), true, N.2.2) := by unfold upN; rw [← hE]
      have hK2 : ndR (va_up M1 (63 + 34 * v) (.inr (6, [.int (nI v), .int (nI 1), .ref (63 + 34 * v + 1), .int (nI (ksN S)), .int (-1), .ref (63 + 34 * v + 21), .ref (63 + 34 * v + 2), .ref (63 + 34 * v + 10), .ref (63 + 34 * v + 13), .ref (63 + 34 * v + 14), .ref (63 + 34 * v + 15), .ref (63 + 34 * v + 18), .int N.2.2.1, .int N.2.2.2]))) (63 + 34 * v) v (upN N) := by rw [eS]; exact ⟨va_up_self _ _ _, ⟨g, hz_mne (hd1.trans u2) (by omega), fun j hj => (u3 j hj).trans (congrFun hDD j)⟩, hT1.fr (fun q q1 q2 => va_up_ne _ _ (by omega)), hc1.fr (fun q q1 q2 => va_up_ne _ _ (by omega)), hp1.fr (fun q q1 q2 => va_up_ne _ _ (by omega)), hL1.fr (fun q q1 q2 => va_up_ne _ _ (by omega))⟩
      have hfz : frS [(9, 39), (45, 46), (53, 54), (63 + 34 * v, 63 + 34 * v + 34)] M0 (va_up M1 (63 + 34 * v) (.inr (6, [.int (nI v), .int (nI 1), .ref (63 + 34 * v + 1), .int (nI (ksN S)), .int (-1), .ref (63 + 34 * v + 21), .ref (63 + 34 * v + 2), .ref (63 + 34 * v + 10), .ref (63 + 34 * v + 13), .ref (63 + 34 * v + 14), .ref (63 + 34 * v + 15), .ref (63 + 34 * v + 18), .int N.2.2.1, .int N.2.2.2]))) := (hf.tr (hf1.mono (fun q (h9 : outS [(9, 39), (45, 46), (53, 54), (63 + 34 * v, 63 + 34 * v + 34)] q) => ⟨h9.2.2.2.1, trivial⟩))).upr (a := 63 + 34 * v) (by simp only [outS, and_true]; omega)
      have hR2 : hcR (va_up M1 (63 + 34 * v) (.inr (6, [.int (nI v), .int (nI 1), .ref (63 + 34 * v + 1), .int (nI (ksN S)), .int (-1), .ref (63 + 34 * v + 21), .ref (63 + 34 * v + 2), .ref (63 + 34 * v + 10), .ref (63 + 34 * v + 13), .ref (63 + 34 * v + 14), .ref (63 + 34 * v + 15), .ref (63 + 34 * v + 18), .int N.2.2.1, .int N.2.2.2]))) z (hoS H v (upN N) (hoQ H)) ll fr kn := hR.u hv hfz (hz_mne ((hf1.at1 (by omega)).trans h45) (by omega)) (by obtain ⟨g9, q9⟩ := h53; exact ⟨g9, hz_mne ((hf1.at1 (by omega)).trans q9) (by omega)⟩) ((hJ.al (fun q q1 q2 => hf1.at1 (by omega))).al (fun q q1 q2 => va_up_ne _ _ (by omega))) hK2
      have hfC : frS [(8, 63 + 34 * (hoN H).length)] M0 (va_up M1 (63 + 34 * v) (.inr (6, [.int (nI v), .int (nI 1), .ref (63 + 34 * v + 1), .int (nI (ksN S)), .int (-1), .ref (63 + 34 * v + 21), .ref (63 + 34 * v + 2), .ref (63 + 34 * v + 10), .ref (63 + 34 * v + 13), .ref (63 + 34 * v + 14), .ref (63 + 34 * v + 15), .ref (63 + 34 * v + 18), .int N.2.2.1, .int N.2.2.2]))) := hfz.mono (fun q (h9 : outS [(8, 63 + 34 * (hoN H).length)] q) => ⟨by have r := h9.1; omega, by have r := h9.1; omega, by have r := h9.1; omega, by have r := h9.1; omega, trivial⟩)
      exact hz_iret (pc := 78) (hz_dec kX11_up 40 rfl) rfl ⟨by rw [← hE], rfl, hfC, ll, fr, kn, hR2⟩
    · skip
      exact absurd h1 (by omega)
  | succ m ih =>
    intro k S M ll hk hk1 hf h45 h53 hJ hU hI ht hDD hE
    have hH : M 8 = hoO (hoT H).length (hoE H) := (hf.at4 (by omega)).trans hR.1
    obtain ⟨f53, h53f⟩ := id h53
    refine hz_iloadn (pc := 36) 0 (hz_dec kX11_up 21 rfl) rfl ?_
    refine hz_bipush (pc := 37) (v := nI 113) (hz_dec kX11_up 22 rfl) (by decide) ?_
    refine hz_n_ge (pc := 39) (tgt := 59) (hz_dec kX11_up 23 rfl) (by decide) (by omega) (by omega) (fun h1 => ?_) (fun h1 => ?_)
    · skip
      exact absurd h1 (by omega)
    · skip
      refine hz_aloadn (pc := 42) 1 (hz_dec kX11_up 24 rfl) rfl ?_
      refine hz_aloadn (pc := 43) 2 (hz_dec kX11_up 25 rfl) rfl ?_
      refine hz_callV (pc := 44) (a := 8) (As := [.ref (63 + 34 * v)]) (st := []) (hz_dec kX11_up 26 rfl) co_X11_370 im_X11_readRecord se_X11_readRecord rfl hH (by omega) (by omega) (c_rdr (by omega) (by omega) hnn hH h45 h53f hJ hU hI ht) rfl (by decide) ⟨Nat.le_refl _, Nat.le_refl _⟩ (Nat.le_of_ble_eq_true rfl) rfl (fun r9 z9 M1 hp9 => ?_)
      obtain ⟨rfl, rfl, hf1, ⟨ll1, h451⟩, h531, hJ1, hU1⟩ := hp9
      have hf01 : frS [(9, 39), (45, 46), (53, 54), (63 + 34 * v, 63 + 34 * v + 34)] M0 M1 := hf.tr hf1
      refine hz_if_ne (pc := 47) (tgt := 53) (hz_dec kX11_up 27 rfl) (by decide) (fun h2 => ?_) (fun h2 => ?_)
      · skip
        have e1 := hz_b1 h2
        have eX : rdX S = rdS S := if_pos e1
        rw [eX] at hU1
        have hq := rd_I hI e1 ht
        have hE2 : upR m (rdS S) = upK N := (show upR (m + 1) S = upR m (rdS S) from if_pos e1).symm.trans hE
        refine hz_incN (pc := 53) (i := 3) (lo2 := [(3, .int (nI (k + 1))), (0, .ref 8), (2, .ref (63 + 34 * v))]) 0 (hz_dec kX11_up 29 rfl) rfl (by decide) rfl ?_
        refine hz_goto (pc := 56) (tgt := 36) (hz_dec kX11_up 30 rfl) (by decide) ?_
        refine hz_pick (pc := 36) [0, 1, 2] rfl ?_
        exact ih (k + 1) (rdS S) M1 ll1 (by omega) (by omega) hf01 h451 h531 hJ1 hU1 hq.1 hq.2 hDD hE2
      · skip
        have e0 := hz_b0 h2
        have eX : rdX S = S := if_neg (by rw [e0]; decide)
        rw [eX] at hU1
        have hE : S = upK N := (show upR (m + 1) S = S from if_neg (by rw [e0]; decide)).symm.trans hE
        refine hz_goto (pc := 50) (tgt := 59) (hz_dec kX11_up 28 rfl) (by decide) ?_
        have hn0 := hU1.1
        refine hz_aloadn (pc := 59) 2 (hz_dec kX11_up 31 rfl) rfl ?_
        obtain ⟨u1, ⟨g, u2, u3⟩, u4, ⟨cs, u5⟩, u6, u7⟩ := id hU1
        refine hz_callV (pc := 60) (a := 63 + 34 * v) (As := []) (st := []) (hz_dec kX11_up 32 rfl) co_X11_121 im_X6_forget se_X6_forget rfl hn0 (by omega) (by omega) (c_fgt (N := N) (by omega) (by omega) u1 u4 u5 u6 u7 hI ht) rfl (by decide) ⟨Nat.le_refl _, Nat.le_refl _⟩ (Nat.le_of_ble_eq_true rfl) rfl (fun r9 z9 M2 hp9 => ?_)
        obtain ⟨rfl, rfl, hf2, hn1, hd1, hT1, hc1, hp1, hL1⟩ := hp9
        have htO := hT1.1
        have htR := hT1.2.1.1
        rw [List.length_map] at htR
        refine hz_aloadn (pc := 63) 2 (hz_dec kX11_up 33 rfl) rfl ?_
        refine hz_iconst (pc := 64) (v := nI 1) (hz_dec kX11_up 34 rfl) (by decide) ?_
        refine hz_putz (pc := 65) (hz_dec kX11_up 35 rfl) fo_X11_166 ft_X6_1 hn1 (by omega) (by omega) (Nat.le_of_ble_eq_true rfl) rfl rfl ?_
        refine hz_mem (pc := 68) (M2 := (va_up M2 (63 + 34 * v) (.inr (6, [.int (nI v), .int (nI 1), .ref (63 + 34 * v + 1), .int (nI (ksN S)), .int (-1), .ref (63 + 34 * v + 21), .ref (63 + 34 * v + 2), .ref (63 + 34 * v + 10), .ref (63 + 34 * v + 13), .ref (63 + 34 * v + 14), .ref (63 + 34 * v + 15), .ref (63 + 34 * v + 18), .int N.2.2.1, .int N.2.2.2])))) rfl ?_
        refine hz_aloadn (pc := 68) 2 (hz_dec kX11_up 36 rfl) rfl ?_
        refine hz_get (pc := 69) (hz_dec kX11_up 37 rfl) fo_X11_104 (va_up_self _ _ _) (by omega) (by omega) rfl ?_
        refine hz_get (pc := 72) (hz_dec kX11_up 38 rfl) fo_X11_217 (hz_mne htO (by omega)) (by omega) (by omega) rfl ?_
        refine hz_get (pc := 75) (hz_dec kX11_up 39 rfl) fo_X11_220 (hz_mne htR (by omega)) (by omega) (by omega) rfl ?_
        have eS : upN N = ((ksB S, ksT S, ksN S, none, ksD N.1, [], [], ksQ N.1), true, N.2.2) := by unfold upN; rw [← hE]
        have hK2 : ndR (va_up M2 (63 + 34 * v) (.inr (6, [.int (nI v), .int (nI 1), .ref (63 + 34 * v + 1), .int (nI (ksN S)), .int (-1), .ref (63 + 34 * v + 21), .ref (63 + 34 * v + 2), .ref (63 + 34 * v + 10), .ref (63 + 34 * v + 13), .ref (63 + 34 * v + 14), .ref (63 + 34 * v + 15), .ref (63 + 34 * v + 18), .int N.2.2.1, .int N.2.2.2]))) (63 + 34 * v) v (upN N) := by rw [eS]; exact ⟨va_up_self _ _ _, ⟨g, hz_mne (hd1.trans u2) (by omega), fun j hj => (u3 j hj).trans (congrFun hDD j)⟩, hT1.fr (fun q q1 q2 => va_up_ne _ _ (by omega)), hc1.fr (fun q q1 q2 => va_up_ne _ _ (by omega)), hp1.fr (fun q q1 q2 => va_up_ne _ _ (by omega)), hL1.fr (fun q q1 q2 => va_up_ne _ _ (by omega))⟩
        have hfz : frS [(9, 39), (45, 46), (53, 54), (63 + 34 * v, 63 + 34 * v + 34)] M0 (va_up M2 (63 + 34 * v) (.inr (6, [.int (nI v), .int (nI 1), .ref (63 + 34 * v + 1), .int (nI (ksN S)), .int (-1), .ref (63 + 34 * v + 21), .ref (63 + 34 * v + 2), .ref (63 + 34 * v + 10), .ref (63 + 34 * v + 13), .ref (63 + 34 * v + 14), .ref (63 + 34 * v + 15), .ref (63 + 34 * v + 18), .int N.2.2.1, .int N.2.2.2]))) := (hf01.tr (hf2.mono (fun q (h9 : outS [(9, 39), (45, 46), (53, 54), (63 + 34 * v, 63 + 34 * v + 34)] q) => ⟨h9.2.2.2.1, trivial⟩))).upr (a := 63 + 34 * v) (by simp only [outS, and_true]; omega)
        have hR2 : hcR (va_up M2 (63 + 34 * v) (.inr (6, [.int (nI v), .int (nI 1), .ref (63 + 34 * v + 1), .int (nI (ksN S)), .int (-1), .ref (63 + 34 * v + 21), .ref (63 + 34 * v + 2), .ref (63 + 34 * v + 10), .ref (63 + 34 * v + 13), .ref (63 + 34 * v + 14), .ref (63 + 34 * v + 15), .ref (63 + 34 * v + 18), .int N.2.2.1, .int N.2.2.2]))) z (hoS H v (upN N) (hoQ H)) ll1 fr kn := hR.u hv hfz (hz_mne ((hf2.at1 (by omega)).trans h451) (by omega)) (by obtain ⟨g9, q9⟩ := h531; exact ⟨g9, hz_mne ((hf2.at1 (by omega)).trans q9) (by omega)⟩) ((hJ1.al (fun q q1 q2 => hf2.at1 (by omega))).al (fun q q1 q2 => va_up_ne _ _ (by omega))) hK2
        have hfC : frS [(8, 63 + 34 * (hoN H).length)] M0 (va_up M2 (63 + 34 * v) (.inr (6, [.int (nI v), .int (nI 1), .ref (63 + 34 * v + 1), .int (nI (ksN S)), .int (-1), .ref (63 + 34 * v + 21), .ref (63 + 34 * v + 2), .ref (63 + 34 * v + 10), .ref (63 + 34 * v + 13), .ref (63 + 34 * v + 14), .ref (63 + 34 * v + 15), .ref (63 + 34 * v + 18), .int N.2.2.1, .int N.2.2.2]))) := hfz.mono (fun q (h9 : outS [(8, 63 + 34 * (hoN H).length)] q) => ⟨by have r := h9.1; omega, by have r := h9.1; omega, by have r := h9.1; omega, by have r := h9.1; omega, trivial⟩)
        exact hz_iret (pc := 78) (hz_dec kX11_up 40 rfl) rfl ⟨by rw [← hE], rfl, hfC, ll1, fr, kn, hR2⟩
set_option maxHeartbeats 4000000 in
set_option maxRecDepth 100000 in
theorem c_up {κ : hz_C} {z : Nat} {M : hz_M} {H : ho_H} (hz : 63 + 34 * (hoN H).length ≤ z) (hnn : (hoN H).length ≤ 6) (hT4 : (hoT H).length ≤ 4000) {ll : Nat} {fr kn : Int32} (hR : hcR M z H ll fr kn) {v : Nat} (hv : v < (hoN H).length) {N : nd_N} (hN : ndL (hoN H) v = N) (hup : N.2.1 = false) (hI : ksI N.1) : hz_Mt κ xX11_up 7 0 0 [.ref 8, .int (nI v)] z M (hcP M z H (.int (nI (ksB (upK N)).length)) (hoS H v (upN N) (hoQ H))) := by
  refine hz_ent (lo := [(0, .ref 8), (1, .int (nI v))]) (by decide) (Nat.le_of_ble_eq_true rfl) rfl ?_
  have hH := hR.1
  have hNs := hR.2.1
  obtain ⟨hO, hQ, hD⟩ := id hR.2.2.2.2.1
  obtain ⟨g53, h53⟩ := hR.2.2.2.2.2.1
  have hJ := hR.2.2.2.1
  obtain ⟨g56, h56, hT56⟩ := hR.2.2.2.2.2.2.2.2.2.1
  have hdf := hR.2.2.2.2.2.2.2.2.2.2
  have hck : ck_k M z := hJ.2.2.2.2.2.2.2.1
  have hcs : ck_s M := hJ.2.2.2.2.2.2.2.2.1
  have hz63 : 63 ≤ z := by omega
  have hK := hR.2.2.1 v hv
  rw [hN] at hK
  obtain ⟨hn, ⟨gd, hgd, hgD⟩, hT, hC, hP, hL⟩ := id hK
  have hn : M (63 + 34 * v) = ndO (63 + 34 * v) (nI v) (nI 0) (nI (ksN N.1)) (pvI (ksF N.1)) N.2.2.1 N.2.2.2 := by rw [hup] at hn; exact hn
  have htO := hT.1
  have htR := hT.2.1.1
  rw [List.length_map] at htR
  obtain ⟨fb, fht, ftm, fbi, t5, t6, t7, t8, tX⟩ := id hT.2.2.2.1
  have hen : (enB (ksB N.1)).length = (ksB N.1).length := enB_len _
  have hlen : 0 < (ksB N.1).length := hI.1.1
  refine hz_aloadn (pc := 0) 0 (hz_dec kX11_up 0 rfl) rfl ?_
  refine hz_iloadn (pc := 1) 1 (hz_dec kX11_up 1 rfl) rfl ?_
  refine hz_xV (pc := 2) (a := 8) (As := [.int (nI v)]) (st := []) (hz_dec kX11_up 2 rfl) co_X11_162 im_X11_nodeOf se_X11_nodeOf rfl hH (by omega) (by omega) (c_nOf hz63 hH hnn hNs (b := v) hv) rfl (by decide) ⟨Nat.le_refl _, Nat.le_refl _⟩ (Nat.le_of_ble_eq_true rfl) rfl ?_
  refine hz_astoren (pc := 5) (i := 2) (lo2 := [(2, .ref (63 + 34 * v)), (0, .ref 8), (1, .int (nI v))]) (hz_dec kX11_up 3 rfl) rfl (by decide) rfl ?_
  refine hz_aloadn (pc := 6) 0 (hz_dec kX11_up 4 rfl) rfl ?_
  refine hz_ifnonnull (pc := 7) (tgt := 12) (hz_dec kX11_up 5 rfl) (by decide) ?_
  refine hz_aloadn (pc := 12) 0 (hz_dec kX11_up 8 rfl) rfl ?_
  refine hz_get (pc := 13) (hz_dec kX11_up 9 rfl) fo_X11_166 hn (by omega) (by omega) rfl ?_
  refine hz_z_eq (pc := 16) (tgt := 22) (hz_dec kX11_up 10 rfl) (by decide) (by omega) (fun hq1 => ?_) (fun hq1 => ?_)
  · skip
    refine hz_aloadn (pc := 22) 0 (hz_dec kX11_up 13 rfl) rfl ?_
    refine hz_get (pc := 23) (hz_dec kX11_up 14 rfl) fo_X11_104 hn (by omega) (by omega) rfl ?_
    refine hz_callV (pc := 26) (a := 63 + 34 * v + 21) (As := []) (st := []) (hz_dec kX11_up 15 rfl) co_X11_364 im_X10_backToFirst se_X10_backToFirst rfl htO (by omega) (by omega) (c_btf hT hlen (by omega) (by omega)) rfl (by decide) ⟨Nat.le_refl _, Nat.le_refl _⟩ (Nat.le_of_ble_eq_true rfl) rfl (fun r9 z9 M1 hp9 => ?_)
    obtain ⟨rfl, rfl, hf1, hT1⟩ := hp9
    have hn1 := (hf1.at1 (q := 63 + 34 * v) (by omega)).trans hn
    refine hz_aloadn (pc := 29) 0 (hz_dec kX11_up 16 rfl) rfl ?_
    refine hz_iconst (pc := 30) (v := nI 0) (hz_dec kX11_up 17 rfl) (by decide) ?_
    refine hz_puti (pc := 31) (hz_dec kX11_up 18 rfl) fo_X11_367 ft_X6_3 hn1 (by omega) (by omega) (Nat.le_of_ble_eq_true rfl) ?_
    refine hz_mem (pc := 34) (M2 := (va_up M1 (63 + 34 * v) (.inr (6, [.int (nI v), .int (nI 0), .ref (63 + 34 * v + 1), .int (nI 0), .int (pvI (ksF N.1)), .ref (63 + 34 * v + 21), .ref (63 + 34 * v + 2), .ref (63 + 34 * v + 10), .ref (63 + 34 * v + 13), .ref (63 + 34 * v + 14), .ref (63 + 34 * v + 15), .ref (63 + 34 * v + 18), .int N.2.2.1, .int N.2.2.2])))) rfl ?_
    have hU : upC (va_up M1 (63 + 34 * v) (.inr (6, [.int (nI v), .int (nI 0), .ref (63 + 34 * v + 1), .int (nI 0), .int (pvI (ksF N.1)), .ref (63 + 34 * v + 21), .ref (63 + 34 * v + 2), .ref (63 + 34 * v + 10), .ref (63 + 34 * v + 13), .ref (63 + 34 * v + 14), .ref (63 + 34 * v + 15), .ref (63 + 34 * v + 18), .int N.2.2.1, .int N.2.2.2]))) (63 + 34 * v) v N (up0 N.1) := ⟨va_up_self _ _ _, ⟨gd, hz_mne ((hf1.at1 (by omega)).trans hgd) (by omega), hgD⟩, hT1.fr (fun q q1 q2 => va_up_ne _ _ (by omega)), ⟨_, hC.fr (fun q q1 q2 => (va_up_ne _ _ (by omega)).trans (hf1.at1 (by omega)))⟩, hP.fr (fun q q1 q2 => (va_up_ne _ _ (by omega)).trans (hf1.at1 (by omega))), hL.fr (fun q q1 q2 => (va_up_ne _ _ (by omega)).trans (hf1.at1 (by omega)))⟩
    have hf2 : frS [(9, 39), (45, 46), (53, 54), (63 + 34 * v, 63 + 34 * v + 34)] M (va_up M1 (63 + 34 * v) (.inr (6, [.int (nI v), .int (nI 0), .ref (63 + 34 * v + 1), .int (nI 0), .int (pvI (ksF N.1)), .ref (63 + 34 * v + 21), .ref (63 + 34 * v + 2), .ref (63 + 34 * v + 10), .ref (63 + 34 * v + 13), .ref (63 + 34 * v + 14), .ref (63 + 34 * v + 15), .ref (63 + 34 * v + 18), .int N.2.2.1, .int N.2.2.2]))) := (hf1.mono (fun q (h9 : outS [(9, 39), (45, 46), (53, 54), (63 + 34 * v, 63 + 34 * v + 34)] q) => ⟨by have r := h9.2.2.2.1; omega, trivial⟩)).upr (a := 63 + 34 * v) (by simp only [outS, and_true]; omega)
    have h45 : (va_up M1 (63 + 34 * v) (.inr (6, [.int (nI v), .int (nI 0), .ref (63 + 34 * v + 1), .int (nI 0), .int (pvI (ksF N.1)), .ref (63 + 34 * v + 21), .ref (63 + 34 * v + 2), .ref (63 + 34 * v + 10), .ref (63 + 34 * v + 13), .ref (63 + 34 * v + 14), .ref (63 + 34 * v + 15), .ref (63 + 34 * v + 18), .int N.2.2.1, .int N.2.2.2]))) 45 = mlO (hoN H).length (hoW H) (hoQ H).2 ll fr kn := hz_mne ((hf1.at1 (by omega)).trans hO) (by omega)
    have h532 : (va_up M1 (63 + 34 * v) (.inr (6, [.int (nI v), .int (nI 0), .ref (63 + 34 * v + 1), .int (nI 0), .int (pvI (ksF N.1)), .ref (63 + 34 * v + 21), .ref (63 + 34 * v + 2), .ref (63 + 34 * v + 10), .ref (63 + 34 * v + 13), .ref (63 + 34 * v + 14), .ref (63 + 34 * v + 15), .ref (63 + 34 * v + 18), .int N.2.2.1, .int N.2.2.2]))) 53 = .inl (1, 4000, .inl g53) := hz_mne ((hf1.at1 (by omega)).trans h53) (by omega)
    have hJ2 : juS (va_up M1 (63 + 34 * v) (.inr (6, [.int (nI v), .int (nI 0), .ref (63 + 34 * v + 1), .int (nI 0), .int (pvI (ksF N.1)), .ref (63 + 34 * v + 21), .ref (63 + 34 * v + 2), .ref (63 + 34 * v + 10), .ref (63 + 34 * v + 13), .ref (63 + 34 * v + 14), .ref (63 + 34 * v + 15), .ref (63 + 34 * v + 18), .int N.2.2.1, .int N.2.2.2]))) z := hJ.al (fun q q1 q2 => (va_up_ne _ _ (by omega)).trans (hf1.at1 (by omega)))
    generalize (va_up M1 (63 + 34 * v) (.inr (6, [.int (nI v), .int (nI 0), .ref (63 + 34 * v + 1), .int (nI 0), .int (pvI (ksF N.1)), .ref (63 + 34 * v + 21), .ref (63 + 34 * v + 2), .ref (63 + 34 * v + 10), .ref (63 + 34 * v + 13), .ref (63 + 34 * v + 14), .ref (63 + 34 * v + 15), .ref (63 + 34 * v + 18), .int N.2.2.1, .int N.2.2.2]))) = M2 at *
    refine hz_iconst (pc := 34) (v := nI 1) (hz_dec kX11_up 19 rfl) (by decide) ?_
    refine hz_istoren (pc := 35) (i := 3) (lo2 := [(3, .int (nI 1)), (2, .ref (63 + 34 * v)), (0, .ref 8), (1, .int (nI v))]) (hz_dec kX11_up 20 rfl) rfl (by decide) rfl ?_
    refine hz_pick (pc := 36) [0, 2, 1] rfl ?_
    exact c_up_l hz hnn hR hv hN 112 1 (up0 N.1) M2 ll rfl (by decide) hf2 h45 ⟨g53, h532⟩ hJ2 hU hI.1.one Nat.zero_lt_one rfl rfl
  · skip
    exact absurd hq1 (by decide)
