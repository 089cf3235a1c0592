/-! solve: both sides -/
set_option maxHeartbeats 4000000 in
set_option maxRecDepth 100000 in
theorem c_solveB1 {κ : hz_C} {z : Nat} {M : hz_M} {H : ho_H} (hz : 63 + 34 * (hoN H).length ≤ z) (hnn : (hoN H).length ≤ 6) (hT4 : (hoT H).length ≤ 4000) {ll : Nat} {fr kn : Int32} (hR : hcR M z H ll fr kn) {nn : Int64} {n : Int32} (hn : n < nI 1 ∨ nI 2000 < n) : hz_Mt κ xX11_solve 4 0 0 [.ref 8, .long nn, .int n] z M (hcP M z H (.int (-1)) H) := by
  refine hz_ent (lo := [(0, .ref 8), (1, .long nn), (3, .int n)]) (by decide) (Nat.le_of_ble_eq_true rfl) rfl ?_
  have hH := hR.1
  have hNs := hR.2.1
  obtain ⟨hO, hQ, hD⟩ := id hR.2.2.2.2.1
  obtain ⟨g53, h53⟩ := hR.2.2.2.2.2.1
  have hJ := hR.2.2.2.1
  obtain ⟨g56, h56, hT56⟩ := hR.2.2.2.2.2.2.2.2.2.1
  have hdf := hR.2.2.2.2.2.2.2.2.2.2
  have hck : ck_k M z := hJ.2.2.2.2.2.2.2.1
  have hcs : ck_s M := hJ.2.2.2.2.2.2.2.2.1
  have hz63 : 63 ≤ z := by omega
  refine hz_iloadn (pc := 0) 2 (hz_dec kX11_solve 0 rfl) rfl ?_
  refine hz_iconst (pc := 1) (v := nI 1) (hz_dec kX11_solve 1 rfl) (by decide) ?_
  refine hz_icmp_lt (pc := 2) (tgt := 21) (hz_dec kX11_solve 2 rfl) (by decide) (fun h1 => ?_) (fun h1 => ?_)
  · skip
    refine hz_iconst (pc := 21) (v := (-1)) (hz_dec kX11_solve 10 rfl) (by decide) ?_
    exact hz_iret (pc := 22) (hz_dec kX11_solve 11 rfl) rfl (hcP.no hR _)
  · skip
    refine hz_iloadn (pc := 5) 2 (hz_dec kX11_solve 3 rfl) rfl ?_
    refine hz_sipush (pc := 6) (v := nI 2000) (hz_dec kX11_solve 4 rfl) (by decide) ?_
    refine hz_icmp_gt (pc := 9) (tgt := 21) (hz_dec kX11_solve 5 rfl) (by decide) (fun h2 => ?_) (fun h2 => ?_)
    · skip
      refine hz_iconst (pc := 21) (v := (-1)) (hz_dec kX11_solve 10 rfl) (by decide) ?_
      exact hz_iret (pc := 22) (hz_dec kX11_solve 11 rfl) rfl (hcP.no hR _)
    · skip
      exact absurd (hn.resolve_left h1) h2
set_option maxHeartbeats 4000000 in
set_option maxRecDepth 100000 in
theorem c_rsolveB1 {κ : hz_C} {z B : Nat} {M : hz_M} {H : ho_H} (hnn : (hoN H).length ≤ 6) (hT4 : (hoT H).length ≤ 4000) (hR : hmR M z B H) {nn : Int64} {n : Int32} (hn : n < nI 1 ∨ nI 2000 < n) : hz_Mt κ xX12_solve 4 0 0 [.ref B, .long nn, .int n] z M (hmP M z B (.int (-1)) H) := by
  refine hz_ent (lo := [(0, .ref B), (1, .long nn), (3, .int n)]) (by decide) (Nat.le_of_ble_eq_true rfl) rfl ?_
  obtain ⟨hk0_, hE0, ⟨m1, m2, m3⟩, hNd, a5, a6, a7, a8⟩ := id hR
  obtain ⟨⟨fs, hO, hF⟩, -, -, h8, hz⟩ := id hk0_
  obtain ⟨x1, x3, x4, x5, x6, x7, x8⟩ := id m3
  refine hz_aloadn (pc := 0) 0 (hz_dec kX12_solve 0 rfl) rfl ?_
  refine hz_iconst (pc := 1) (v := nI 0) (hz_dec kX12_solve 1 rfl) (by decide) ?_
  refine hz_puti (pc := 2) (hz_dec kX12_solve 2 rfl) fo_X12_302 ft_X12_0 hO h8 (by omega) (by rw [hF.1]; decide) ?_
  have hf1 : mfr B [0, 89] [] M (va_up M B (.inr (12, (List.set fs 0 (.int (nI 0)))))) := (mfr.rf ⟨fs, hO, hF⟩).upO (k := 0) hO hF rfl rfl
  have hR1 : hmR (va_up M B (.inr (12, (List.set fs 0 (.int (nI 0)))))) z B H := hR.m0 hf1 hE0.upO ((fdB_of (va_up_self _ _ _) 89).trans ((List.getElem?_set_ne (by decide)).trans ((fdB_of hO 89).symm.trans x8)))
  generalize (va_up M B (.inr (12, (List.set fs 0 (.int (nI 0)))))) = M1 at *
  obtain ⟨hk1, hE1, ⟨n1, d1, q1⟩, hNd1, a51, a61, a71, a81⟩ := id hR1
  obtain ⟨⟨fs1, hO1, hF1⟩, -, -, -, -⟩ := id hk1
  refine hz_iloadn (pc := 5) 2 (hz_dec kX12_solve 3 rfl) rfl ?_
  refine hz_iconst (pc := 6) (v := nI 1) (hz_dec kX12_solve 4 rfl) (by decide) ?_
  refine hz_icmp_lt (pc := 7) (tgt := 42) (hz_dec kX12_solve 5 rfl) (by decide) (fun h1 => ?_) (fun h1 => ?_)
  · skip
    refine hz_iconst (pc := 42) (v := (-1)) (hz_dec kX12_solve 20 rfl) (by decide) ?_
    exact hz_iret (pc := 43) (hz_dec kX12_solve 21 rfl) rfl ⟨rfl, rfl, hf1.S rfl, hR1⟩
  · skip
    refine hz_iloadn (pc := 10) 2 (hz_dec kX12_solve 6 rfl) rfl ?_
    refine hz_sipush (pc := 11) (v := nI 2000) (hz_dec kX12_solve 7 rfl) (by decide) ?_
    refine hz_icmp_gt (pc := 14) (tgt := 42) (hz_dec kX12_solve 8 rfl) (by decide) (fun h2 => ?_) (fun h2 => ?_)
    · skip
      refine hz_iconst (pc := 42) (v := (-1)) (hz_dec kX12_solve 20 rfl) (by decide) ?_
      exact hz_iret (pc := 43) (hz_dec kX12_solve 21 rfl) rfl ⟨rfl, rfl, hf1.S rfl, hR1⟩
    · skip
      exact absurd (hn.resolve_left h1) h2
set_option maxHeartbeats 4000000 in
set_option maxRecDepth 100000 in
theorem c_solveB2 {κ : hz_C} {z : Nat} {M : hz_M} {H : ho_H} (hz : 63 + 34 * (hoN H).length ≤ z) (hnn : (hoN H).length ≤ 6) (hT4 : (hoT H).length ≤ 4000) {ll : Nat} {fr kn : Int32} (hR : hcR M z H ll fr kn) {nn : Int64} {n : Nat} (hn1 : 1 ≤ n) (hn2 : n ≤ 2000) (hL : ¬ 80 ≤ (hoT H).length) : hz_Mt κ xX11_solve 4 0 0 [.ref 8, .long nn, .int (nI n)] z M (hcP M z H (.int (-1)) H) := by
  refine hz_ent (lo := [(0, .ref 8), (1, .long nn), (3, .int (nI n))]) (by decide) (Nat.le_of_ble_eq_true rfl) rfl ?_
  have hH := hR.1
  have hNs := hR.2.1
  obtain ⟨hO, hQ, hD⟩ := id hR.2.2.2.2.1
  obtain ⟨g53, h53⟩ := hR.2.2.2.2.2.1
  have hJ := hR.2.2.2.1
  obtain ⟨g56, h56, hT56⟩ := hR.2.2.2.2.2.2.2.2.2.1
  have hdf := hR.2.2.2.2.2.2.2.2.2.2
  have hck : ck_k M z := hJ.2.2.2.2.2.2.2.1
  have hcs : ck_s M := hJ.2.2.2.2.2.2.2.2.1
  have hz63 : 63 ≤ z := by omega
  refine hz_iloadn (pc := 0) 2 (hz_dec kX11_solve 0 rfl) rfl ?_
  refine hz_iconst (pc := 1) (v := nI 1) (hz_dec kX11_solve 1 rfl) (by decide) ?_
  refine hz_n_lt (pc := 2) (tgt := 21) (hz_dec kX11_solve 2 rfl) (by decide) (by omega) (by omega) (fun h1 => ?_) (fun h1 => ?_)
  · skip
    exact absurd h1 (by omega)
  · skip
    refine hz_iloadn (pc := 5) 2 (hz_dec kX11_solve 3 rfl) rfl ?_
    refine hz_sipush (pc := 6) (v := nI 2000) (hz_dec kX11_solve 4 rfl) (by decide) ?_
    refine hz_n_gt (pc := 9) (tgt := 21) (hz_dec kX11_solve 5 rfl) (by decide) (by omega) (by omega) (fun h2 => ?_) (fun h2 => ?_)
    · skip
      exact absurd h2 (by omega)
    · skip
      refine hz_aloadn (pc := 12) 0 (hz_dec kX11_solve 6 rfl) rfl ?_
      refine hz_get (pc := 13) (hz_dec kX11_solve 7 rfl) fo_X11_124 hH (by omega) (by omega) rfl ?_
      refine hz_bipush (pc := 16) (v := nI 80) (hz_dec kX11_solve 8 rfl) (by decide) ?_
      refine hz_n_ge (pc := 18) (tgt := 23) (hz_dec kX11_solve 9 rfl) (by decide) (by omega) (by omega) (fun h3 => ?_) (fun h3 => ?_)
      · skip
        exact absurd h3 hL
      · skip
        refine hz_iconst (pc := 21) (v := (-1)) (hz_dec kX11_solve 10 rfl) (by decide) ?_
        exact hz_iret (pc := 22) (hz_dec kX11_solve 11 rfl) rfl (hcP.no hR _)
set_option maxHeartbeats 4000000 in
set_option maxRecDepth 100000 in
theorem c_rsolveB2 {κ : hz_C} {z B : Nat} {M : hz_M} {H : ho_H} (hnn : (hoN H).length ≤ 6) (hT4 : (hoT H).length ≤ 4000) (hR : hmR M z B H) {nn : Int64} {n : Nat} (hn1 : 1 ≤ n) (hn2 : n ≤ 2000) (hL : ¬ 80 ≤ (hoT H).length) : hz_Mt κ xX12_solve 4 0 0 [.ref B, .long nn, .int (nI n)] z M (hmP M z B (.int (-1)) H) := by
  refine hz_ent (lo := [(0, .ref B), (1, .long nn), (3, .int (nI n))]) (by decide) (Nat.le_of_ble_eq_true rfl) rfl ?_
  obtain ⟨hk0_, hE0, ⟨m1, m2, m3⟩, hNd, a5, a6, a7, a8⟩ := id hR
  obtain ⟨⟨fs, hO, hF⟩, -, -, h8, hz⟩ := id hk0_
  obtain ⟨x1, x3, x4, x5, x6, x7, x8⟩ := id m3
  refine hz_aloadn (pc := 0) 0 (hz_dec kX12_solve 0 rfl) rfl ?_
  refine hz_iconst (pc := 1) (v := nI 0) (hz_dec kX12_solve 1 rfl) (by decide) ?_
  refine hz_puti (pc := 2) (hz_dec kX12_solve 2 rfl) fo_X12_302 ft_X12_0 hO h8 (by omega) (by rw [hF.1]; decide) ?_
  have hf1 : mfr B [0, 89] [] M (va_up M B (.inr (12, (List.set fs 0 (.int (nI 0)))))) := (mfr.rf ⟨fs, hO, hF⟩).upO (k := 0) hO hF rfl rfl
  have hR1 : hmR (va_up M B (.inr (12, (List.set fs 0 (.int (nI 0)))))) z B H := hR.m0 hf1 hE0.upO ((fdB_of (va_up_self _ _ _) 89).trans ((List.getElem?_set_ne (by decide)).trans ((fdB_of hO 89).symm.trans x8)))
  generalize (va_up M B (.inr (12, (List.set fs 0 (.int (nI 0)))))) = M1 at *
  obtain ⟨hk1, hE1, ⟨n1, d1, q1⟩, hNd1, a51, a61, a71, a81⟩ := id hR1
  obtain ⟨⟨fs1, hO1, hF1⟩, -, -, -, -⟩ := id hk1
  have g95_1 : fs1[95]? = some (.int (nI ((hoT H).length))) := (fdB_of hO1 95).symm.trans a61
  refine hz_iloadn (pc := 5) 2 (hz_dec kX12_solve 3 rfl) rfl ?_
  refine hz_iconst (pc := 6) (v := nI 1) (hz_dec kX12_solve 4 rfl) (by decide) ?_
  refine hz_n_lt (pc := 7) (tgt := 42) (hz_dec kX12_solve 5 rfl) (by decide) (by omega) (by omega) (fun h1 => ?_) (fun h1 => ?_)
  · skip
    exact absurd h1 (by omega)
  · skip
    refine hz_iloadn (pc := 10) 2 (hz_dec kX12_solve 6 rfl) rfl ?_
    refine hz_sipush (pc := 11) (v := nI 2000) (hz_dec kX12_solve 7 rfl) (by decide) ?_
    refine hz_n_gt (pc := 14) (tgt := 42) (hz_dec kX12_solve 8 rfl) (by decide) (by omega) (by omega) (fun h2 => ?_) (fun h2 => ?_)
    · skip
      exact absurd h2 (by omega)
    · skip
      refine hz_aloadn (pc := 17) 0 (hz_dec kX12_solve 9 rfl) rfl ?_
      refine hz_get (pc := 18) (v := .int (nI ((hoT H).length))) (hz_dec kX12_solve 10 rfl) fo_X12_679 hO1 h8 (by omega) g95_1 ?_
      refine hz_bipush (pc := 21) (v := nI 80) (hz_dec kX12_solve 11 rfl) (by decide) ?_
      refine hz_n_lt (pc := 23) (tgt := 42) (hz_dec kX12_solve 12 rfl) (by decide) (by omega) (by omega) (fun h3 => ?_) (fun h3 => ?_)
      · skip
        refine hz_iconst (pc := 42) (v := (-1)) (hz_dec kX12_solve 20 rfl) (by decide) ?_
        exact hz_iret (pc := 43) (hz_dec kX12_solve 21 rfl) rfl ⟨rfl, rfl, hf1.S rfl, hR1⟩
      · skip
        exact absurd hL (by omega)
set_option maxHeartbeats 4000000 in
set_option maxRecDepth 100000 in
theorem c_solveB3 {κ : hz_C} {z : Nat} {M : hz_M} {H : ho_H} (hz : 63 + 34 * (hoN H).length ≤ z) (hnn : (hoN H).length ≤ 6) (hT4 : (hoT H).length ≤ 4000) {ll : Nat} {fr kn : Int32} (hR : hcR M z H ll fr kn) {nn : Int64} {n : Nat} (hn1 : 1 ≤ n) (hn2 : n ≤ 2000) (hL : 80 ≤ (hoT H).length) (ht : tgR (bn_int (lf (hoT H)) 68) = false) : hz_Mt κ xX11_solve 4 0 0 [.ref 8, .long nn, .int (nI n)] z M (hcP M z H (.int (-1)) H) := by
  refine hz_ent (lo := [(0, .ref 8), (1, .long nn), (3, .int (nI n))]) (by decide) (Nat.le_of_ble_eq_true rfl) rfl ?_
  have hH := hR.1
  have hNs := hR.2.1
  obtain ⟨hO, hQ, hD⟩ := id hR.2.2.2.2.1
  obtain ⟨g53, h53⟩ := hR.2.2.2.2.2.1
  have hJ := hR.2.2.2.1
  obtain ⟨g56, h56, hT56⟩ := hR.2.2.2.2.2.2.2.2.2.1
  have hdf := hR.2.2.2.2.2.2.2.2.2.2
  have hck : ck_k M z := hJ.2.2.2.2.2.2.2.1
  have hcs : ck_s M := hJ.2.2.2.2.2.2.2.2.1
  have hz63 : 63 ≤ z := by omega
  have e68 : (bn_num g56 68 4).toInt32 = bn_int (lf (hoT H)) 68 := by rw [bn_int_l]; have q := int_of (i := 68) hT56 (by omega); rw [Nat.zero_add] at q; exact q
  refine hz_iloadn (pc := 0) 2 (hz_dec kX11_solve 0 rfl) rfl ?_
  refine hz_iconst (pc := 1) (v := nI 1) (hz_dec kX11_solve 1 rfl) (by decide) ?_
  refine hz_n_lt (pc := 2) (tgt := 21) (hz_dec kX11_solve 2 rfl) (by decide) (by omega) (by omega) (fun h1 => ?_) (fun h1 => ?_)
  · skip
    exact absurd h1 (by omega)
  · skip
    refine hz_iloadn (pc := 5) 2 (hz_dec kX11_solve 3 rfl) rfl ?_
    refine hz_sipush (pc := 6) (v := nI 2000) (hz_dec kX11_solve 4 rfl) (by decide) ?_
    refine hz_n_gt (pc := 9) (tgt := 21) (hz_dec kX11_solve 5 rfl) (by decide) (by omega) (by omega) (fun h2 => ?_) (fun h2 => ?_)
    · skip
      exact absurd h2 (by omega)
    · skip
      refine hz_aloadn (pc := 12) 0 (hz_dec kX11_solve 6 rfl) rfl ?_
      refine hz_get (pc := 13) (hz_dec kX11_solve 7 rfl) fo_X11_124 hH (by omega) (by omega) rfl ?_
      refine hz_bipush (pc := 16) (v := nI 80) (hz_dec kX11_solve 8 rfl) (by decide) ?_
      refine hz_n_ge (pc := 18) (tgt := 23) (hz_dec kX11_solve 9 rfl) (by decide) (by omega) (by omega) (fun h3 => ?_) (fun h3 => ?_)
      · skip
        refine hz_aloadn (pc := 23) 0 (hz_dec kX11_solve 12 rfl) rfl ?_
        refine hz_get (pc := 24) (hz_dec kX11_solve 13 rfl) fo_X11_72 hH (by omega) (by omega) rfl ?_
        refine hz_bipush (pc := 27) (v := nI 68) (hz_dec kX11_solve 14 rfl) (by decide) ?_
        refine hz_iconst (pc := 29) (v := nI 4) (hz_dec kX11_solve 15 rfl) (by decide) ?_
        refine hz_xS (pc := 30) (As := [.ref 56, .int (nI 68), .int (nI 4)]) (st := []) (hz_dec kX11_solve 16 rfl) co_X11_273 sc_X0_number (c_number (at_ := 68) (mn := 4) h56 (by decide) (by omega) (by decide) (by decide)) rfl (by decide) ⟨Nat.le_refl _, Nat.le_refl _⟩ (Nat.le_of_ble_eq_true rfl) rfl ?_
        refine hz_l2i (pc := 33) (hz_dec kX11_solve 17 rfl) ?_
        refine hz_eqi (pc := 34) e68 ?_
        refine hz_istore (pc := 34) (i := 4) (lo2 := [(4, .int (bn_int (lf (hoT H)) 68)), (0, .ref 8), (1, .long nn), (3, .int (nI n))]) (hz_dec kX11_solve 18 rfl) (by decide) rfl ?_
        refine hz_iload (pc := 36) 0 (hz_dec kX11_solve 19 rfl) rfl ?_
        refine hz_xS (pc := 38) (As := [.int (bn_int (lf (hoT H)) 68)]) (st := []) (hz_dec kX11_solve 20 rfl) co_X11_277 sc_X9_isRight (c_isRight) rfl (by decide) ⟨Nat.le_refl _, Nat.le_refl _⟩ (Nat.le_of_ble_eq_true rfl) rfl ?_
        refine hz_if_ne (pc := 41) (tgt := 46) (hz_dec kX11_solve 21 rfl) (by decide) (fun h4 => ?_) (fun h4 => ?_)
        · skip
          exact absurd ht (fun c => h4 (by rw [c]; rfl))
        · skip
          refine hz_iconst (pc := 44) (v := (-1)) (hz_dec kX11_solve 22 rfl) (by decide) ?_
          exact hz_iret (pc := 45) (hz_dec kX11_solve 23 rfl) rfl (hcP.no hR _)
      · skip
        exact absurd hL (by omega)
set_option maxHeartbeats 4000000 in
set_option maxRecDepth 100000 in
theorem c_solveB4 {κ : hz_C} {z : Nat} {M : hz_M} {H : ho_H} (hz : 63 + 34 * (hoN H).length ≤ z) (hnn : (hoN H).length ≤ 6) (hT4 : (hoT H).length ≤ 4000) {ll : Nat} {fr kn : Int32} (hR : hcR M z H ll fr kn) {nn : Int64} {n : Nat} (hn1 : 1 ≤ n) (hn2 : n ≤ 2000) (hL : 80 ≤ (hoT H).length) (ht : tgR (bn_int (lf (hoT H)) 68) = true) (he : ¬ nI n ≤ hoE H) : hz_Mt κ xX11_solve 4 0 0 [.ref 8, .long nn, .int (nI n)] z M (hcP M z H (.int (-3)) H) := by
  refine hz_ent (lo := [(0, .ref 8), (1, .long nn), (3, .int (nI n))]) (by decide) (Nat.le_of_ble_eq_true rfl) rfl ?_
  have hH := hR.1
  have hNs := hR.2.1
  obtain ⟨hO, hQ, hD⟩ := id hR.2.2.2.2.1
  obtain ⟨g53, h53⟩ := hR.2.2.2.2.2.1
  have hJ := hR.2.2.2.1
  obtain ⟨g56, h56, hT56⟩ := hR.2.2.2.2.2.2.2.2.2.1
  have hdf := hR.2.2.2.2.2.2.2.2.2.2
  have hck : ck_k M z := hJ.2.2.2.2.2.2.2.1
  have hcs : ck_s M := hJ.2.2.2.2.2.2.2.2.1
  have hz63 : 63 ≤ z := by omega
  have e68 : (bn_num g56 68 4).toInt32 = bn_int (lf (hoT H)) 68 := by rw [bn_int_l]; have q := int_of (i := 68) hT56 (by omega); rw [Nat.zero_add] at q; exact q
  refine hz_iloadn (pc := 0) 2 (hz_dec kX11_solve 0 rfl) rfl ?_
  refine hz_iconst (pc := 1) (v := nI 1) (hz_dec kX11_solve 1 rfl) (by decide) ?_
  refine hz_n_lt (pc := 2) (tgt := 21) (hz_dec kX11_solve 2 rfl) (by decide) (by omega) (by omega) (fun h1 => ?_) (fun h1 => ?_)
  · skip
    exact absurd h1 (by omega)
  · skip
    refine hz_iloadn (pc := 5) 2 (hz_dec kX11_solve 3 rfl) rfl ?_
    refine hz_sipush (pc := 6) (v := nI 2000) (hz_dec kX11_solve 4 rfl) (by decide) ?_
    refine hz_n_gt (pc := 9) (tgt := 21) (hz_dec kX11_solve 5 rfl) (by decide) (by omega) (by omega) (fun h2 => ?_) (fun h2 => ?_)
    · skip
      exact absurd h2 (by omega)
    · skip
      refine hz_aloadn (pc := 12) 0 (hz_dec kX11_solve 6 rfl) rfl ?_
      refine hz_get (pc := 13) (hz_dec kX11_solve 7 rfl) fo_X11_124 hH (by omega) (by omega) rfl ?_
      refine hz_bipush (pc := 16) (v := nI 80) (hz_dec kX11_solve 8 rfl) (by decide) ?_
      refine hz_n_ge (pc := 18) (tgt := 23) (hz_dec kX11_solve 9 rfl) (by decide) (by omega) (by omega) (fun h3 => ?_) (fun h3 => ?_)
      · skip
        refine hz_aloadn (pc := 23) 0 (hz_dec kX11_solve 12 rfl) rfl ?_
        refine hz_get (pc := 24) (hz_dec kX11_solve 13 rfl) fo_X11_72 hH (by omega) (by omega) rfl ?_
        refine hz_bipush (pc := 27) (v := nI 68) (hz_dec kX11_solve 14 rfl) (by decide) ?_
        refine hz_iconst (pc := 29) (v := nI 4) (hz_dec kX11_solve 15 rfl) (by decide) ?_
        refine hz_xS (pc := 30) (As := [.ref 56, .int (nI 68), .int (nI 4)]) (st := []) (hz_dec kX11_solve 16 rfl) co_X11_273 sc_X0_number (c_number (at_ := 68) (mn := 4) h56 (by decide) (by omega) (by decide) (by decide)) rfl (by decide) ⟨Nat.le_refl _, Nat.le_refl _⟩ (Nat.le_of_ble_eq_true rfl) rfl ?_
        refine hz_l2i (pc := 33) (hz_dec kX11_solve 17 rfl) ?_
        refine hz_eqi (pc := 34) e68 ?_
        refine hz_istore (pc := 34) (i := 4) (lo2 := [(4, .int (bn_int (lf (hoT H)) 68)), (0, .ref 8), (1, .long nn), (3, .int (nI n))]) (hz_dec kX11_solve 18 rfl) (by decide) rfl ?_
        refine hz_iload (pc := 36) 0 (hz_dec kX11_solve 19 rfl) rfl ?_
        refine hz_xS (pc := 38) (As := [.int (bn_int (lf (hoT H)) 68)]) (st := []) (hz_dec kX11_solve 20 rfl) co_X11_277 sc_X9_isRight (c_isRight) rfl (by decide) ⟨Nat.le_refl _, Nat.le_refl _⟩ (Nat.le_of_ble_eq_true rfl) rfl ?_
        refine hz_if_ne (pc := 41) (tgt := 46) (hz_dec kX11_solve 21 rfl) (by decide) (fun h4 => ?_) (fun h4 => ?_)
        · skip
          refine hz_iloadn (pc := 46) 3 (hz_dec kX11_solve 24 rfl) rfl ?_
          refine hz_aloadn (pc := 47) 1 (hz_dec kX11_solve 25 rfl) rfl ?_
          refine hz_get (pc := 48) (hz_dec kX11_solve 26 rfl) fo_X11_77 hH (by omega) (by omega) rfl ?_
          refine hz_icmp_le (pc := 51) (tgt := 57) (hz_dec kX11_solve 27 rfl) (by decide) (fun h5 => ?_) (fun h5 => ?_)
          · skip
            exact absurd h5 he
          · skip
            refine hz_bipush (pc := 54) (v := (-3)) (hz_dec kX11_solve 28 rfl) (by decide) ?_
            exact hz_iret (pc := 56) (hz_dec kX11_solve 29 rfl) rfl (hcP.no hR _)
        · skip
          exact absurd (hz_b0 h4) (by rw [ht]; decide)
      · skip
        exact absurd hL (by omega)
set_option maxHeartbeats 4000000 in
set_option maxRecDepth 100000 in
theorem c_solve {κ : hz_C} {z : Nat} {M : hz_M} {H : ho_H} (hz : 63 + 34 * (hoN H).length ≤ z) (hnn : (hoN H).length ≤ 6) (hT4 : (hoT H).length ≤ 4000) {ll : Nat} {fr kn : Int32} (hR : hcR M z H ll fr kn) {nn : Int64} {n : Nat} (hn1 : 1 ≤ n) (hn2 : n ≤ 2000) (hL : 80 ≤ (hoT H).length) (ht : tgR (bn_int (lf (hoT H)) 68) = true) (he : nI n ≤ hoE H) : hz_Mt κ xX11_solve 4 0 0 [.ref 8, .long nn, .int (nI n)] z M (hcP M z H (.int (slR nn (tgT (bn_int (lf (hoT H)) 68)) n 0 (hoT H) (hoE H)).2.2) (hot H (slR nn (tgT (bn_int (lf (hoT H)) 68)) n 0 (hoT H) (hoE H)).1 (slR nn (tgT (bn_int (lf (hoT H)) 68)) n 0 (hoT H) (hoE H)).2.1)) := by
  refine hz_ent (lo := [(0, .ref 8), (1, .long nn), (3, .int (nI n))]) (by decide) (Nat.le_of_ble_eq_true rfl) rfl ?_
  have hH := hR.1
  have hNs := hR.2.1
  obtain ⟨hO, hQ, hD⟩ := id hR.2.2.2.2.1
  obtain ⟨g53, h53⟩ := hR.2.2.2.2.2.1
  have hJ := hR.2.2.2.1
  obtain ⟨g56, h56, hT56⟩ := hR.2.2.2.2.2.2.2.2.2.1
  have hdf := hR.2.2.2.2.2.2.2.2.2.2
  have hck : ck_k M z := hJ.2.2.2.2.2.2.2.1
  have hcs : ck_s M := hJ.2.2.2.2.2.2.2.2.1
  have hz63 : 63 ≤ z := by omega
  have e68 : (bn_num g56 68 4).toInt32 = bn_int (lf (hoT H)) 68 := by rw [bn_int_l]; have q := int_of (i := 68) hT56 (by omega); rw [Nat.zero_add] at q; exact q
  have htg := tgR_b ht
  obtain ⟨wb, hw20, ⟨f21, h21⟩, hw22, hw23, hw24⟩ := id hJ.2.2.2.2.2.2.2.2.2
  refine hz_iloadn (pc := 0) 2 (hz_dec kX11_solve 0 rfl) rfl ?_
  refine hz_iconst (pc := 1) (v := nI 1) (hz_dec kX11_solve 1 rfl) (by decide) ?_
  refine hz_n_lt (pc := 2) (tgt := 21) (hz_dec kX11_solve 2 rfl) (by decide) (by omega) (by omega) (fun h1 => ?_) (fun h1 => ?_)
  · skip
    exact absurd h1 (by omega)
  · skip
    refine hz_iloadn (pc := 5) 2 (hz_dec kX11_solve 3 rfl) rfl ?_
    refine hz_sipush (pc := 6) (v := nI 2000) (hz_dec kX11_solve 4 rfl) (by decide) ?_
    refine hz_n_gt (pc := 9) (tgt := 21) (hz_dec kX11_solve 5 rfl) (by decide) (by omega) (by omega) (fun h2 => ?_) (fun h2 => ?_)
    · skip
      exact absurd h2 (by omega)
    · skip
      refine hz_aloadn (pc := 12) 0 (hz_dec kX11_solve 6 rfl) rfl ?_
      refine hz_get (pc := 13) (hz_dec kX11_solve 7 rfl) fo_X11_124 hH (by omega) (by omega) rfl ?_
      refine hz_bipush (pc := 16) (v := nI 80) (hz_dec kX11_solve 8 rfl) (by decide) ?_
      refine hz_n_ge (pc := 18) (tgt := 23) (hz_dec kX11_solve 9 rfl) (by decide) (by omega) (by omega) (fun h3 => ?_) (fun h3 => ?_)
      · skip
        refine hz_aloadn (pc := 23) 0 (hz_dec kX11_solve 12 rfl) rfl ?_
        refine hz_get (pc := 24) (hz_dec kX11_solve 13 rfl) fo_X11_72 hH (by omega) (by omega) rfl ?_
        refine hz_bipush (pc := 27) (v := nI 68) (hz_dec kX11_solve 14 rfl) (by decide) ?_
        refine hz_iconst (pc := 29) (v := nI 4) (hz_dec kX11_solve 15 rfl) (by decide) ?_
        refine hz_xS (pc := 30) (As := [.ref 56, .int (nI 68), .int (nI 4)]) (st := []) (hz_dec kX11_solve 16 rfl) co_X11_273 sc_X0_number (c_number (at_ := 68) (mn := 4) h56 (by decide) (by omega) (by decide) (by decide)) rfl (by decide) ⟨Nat.le_refl _, Nat.le_refl _⟩ (Nat.le_of_ble_eq_true rfl) rfl ?_
        refine hz_l2i (pc := 33) (hz_dec kX11_solve 17 rfl) ?_
        refine hz_eqi (pc := 34) e68 ?_
        refine hz_istore (pc := 34) (i := 4) (lo2 := [(4, .int (bn_int (lf (hoT H)) 68)), (0, .ref 8), (1, .long nn), (3, .int (nI n))]) (hz_dec kX11_solve 18 rfl) (by decide) rfl ?_
        refine hz_iload (pc := 36) 0 (hz_dec kX11_solve 19 rfl) rfl ?_
        refine hz_xS (pc := 38) (As := [.int (bn_int (lf (hoT H)) 68)]) (st := []) (hz_dec kX11_solve 20 rfl) co_X11_277 sc_X9_isRight (c_isRight) rfl (by decide) ⟨Nat.le_refl _, Nat.le_refl _⟩ (Nat.le_of_ble_eq_true rfl) rfl ?_
        refine hz_if_ne (pc := 41) (tgt := 46) (hz_dec kX11_solve 21 rfl) (by decide) (fun h4 => ?_) (fun h4 => ?_)
        · skip
          refine hz_iloadn (pc := 46) 3 (hz_dec kX11_solve 24 rfl) rfl ?_
          refine hz_aloadn (pc := 47) 1 (hz_dec kX11_solve 25 rfl) rfl ?_
          refine hz_get (pc := 48) (hz_dec kX11_solve 26 rfl) fo_X11_77 hH (by omega) (by omega) rfl ?_
          refine hz_icmp_le (pc := 51) (tgt := 57) (hz_dec kX11_solve 27 rfl) (by decide) (fun h5 => ?_) (fun h5 => ?_)
          · skip
            refine hz_aloadn (pc := 57) 1 (hz_dec kX11_solve 30 rfl) rfl ?_
            refine hz_get (pc := 58) (hz_dec kX11_solve 31 rfl) fo_X11_37 hH (by omega) (by omega) rfl ?_
            refine hz_iload (pc := 61) 0 (hz_dec kX11_solve 32 rfl) rfl ?_
            refine hz_callV (pc := 63) (a := 20) (As := [.int (bn_int (lf (hoT H)) 68)]) (st := []) (hz_dec kX11_solve 33 rfl) co_X11_281 im_X9_load se_X9_load rfl hw20 (by omega) (by omega) (c_load hw20 (by omega) h21 (by omega) (by omega)) rfl (by decide) ⟨Nat.le_refl _, Nat.le_refl _⟩ (Nat.le_of_ble_eq_true rfl) rfl (fun r9 z9 M2 hp9 => ?_)
            obtain ⟨rfl, rfl, f9, hb9, rfl⟩ := hp9
            have hw2 : ck_w (va_up M 21 (.inl (0, 8, .inl f9))) := by obtain ⟨f22, h22⟩ := hw22; obtain ⟨f23, h23⟩ := hw23; obtain ⟨f24, h24, h24x⟩ := hw24; exact ⟨wb, hz_mne hw20 (by decide), ⟨f9, va_up_self _ _ _⟩, ⟨f22, hz_mne h22 (by decide)⟩, ⟨f23, hz_mne h23 (by decide)⟩, ⟨f24, hz_mne h24 (by decide), h24x⟩⟩
            have hf2 : frS [(9, 39)] M (va_up M 21 (.inl (0, 8, .inl f9))) := frS.rf.upr (a := 21) (by simp only [outS, and_true]; omega)
            have hR2 : hcR (va_up M 21 (.inl (0, 8, .inl f9))) z H ll fr kn := hR.j hf2 (hJ.w (fun q q1 q2 q3 => va_up_ne _ _ (by omega)) hw2)
            refine hz_iconst (pc := 66) (v := nI 1) (hz_dec kX11_solve 34 rfl) (by decide) ?_
            refine hz_istore (pc := 67) (i := 5) (lo2 := [(5, .int (nI 1)), (4, .int (bn_int (lf (hoT H)) 68)), (0, .ref 8), (1, .long nn), (3, .int (nI n))]) (hz_dec kX11_solve 35 rfl) (by decide) rfl ?_
            refine hz_pick (pc := 69) [0, 2, 3, 4] rfl ?_
            exact c_sol_l (H := H) hz hnn (L := (hoT H).length) hn2 hL hT4 (R := slR nn (tgT (bn_int (lf (hoT H)) 68)) n 0 (hoT H) (hoE H)) n 0 (hoT H) (hoE H) _ ll fr kn rfl (by omega) rfl (hf2.mono (fun q (h9 : outS [(8, 63 + 34 * (hoN H).length)] q) => ⟨by have r := h9.1; omega, trivial⟩)) hR2 ⟨f9, va_up_self _ _ _, hb9⟩ rfl
          · skip
            exact absurd he h5
        · skip
          exact absurd (hz_b0 h4) (by rw [ht]; decide)
      · skip
        exact absurd hL (by omega)
set_option maxHeartbeats 4000000 in
set_option maxRecDepth 100000 in
theorem c_rsol_l {κ : hz_C} {z B : Nat} {M0 : hz_M} {H : ho_H} {nn : Int64} {n L : Nat} {bt : Int32} (hbt : tgR bt = true) (hn2 : n ≤ 2000) (hL8 : 80 ≤ L) (hL4 : L ≤ 4000) {R : by_L × Int32 × Int32} : ∀ k i T e M, k = n - i → i ≤ n → T.length = L → frM B M0 M → hmR M z B (hot H T e) → R = slR nn (tgT bt) k i T e → hz_W κ xX12_solve 4 0 0 (fun r z2 M3 => some (.int R.2.2) = r ∧ z = z2 ∧ frM B M0 M3 ∧ hmR M3 z B (hot H R.1 R.2.1)) 0 0 69 [(5, .int (nI i)), (4, .int bt), (0, .ref B), (1, .long nn), (3, .int (nI n))] [] z M := by
  intro k
  induction k with
  | zero =>
    intro i T e M hk hi hTL hf hR hE
    refine hz_iload (pc := 69) 0 (hz_dec kX12_solve 35 rfl) rfl ?_
    refine hz_iloadn (pc := 71) 4 (hz_dec kX12_solve 36 rfl) rfl ?_
    refine hz_n_ge (pc := 72) (tgt := 130) (hz_dec kX12_solve 37 rfl) (by decide) (by omega) (by omega) (fun h1 => ?_) (fun h1 => ?_)
    · skip
      have e2 : R = (T, e, -4) := hE
      refine hz_bipush (pc := 130) (v := (-4)) (hz_dec kX12_solve 68 rfl) (by decide) ?_
      exact hz_iret (pc := 132) (hz_dec kX12_solve 69 rfl) rfl ⟨by rw [e2], rfl, hf, by rw [e2]; exact hR⟩
    · skip
      exact absurd h1 (by omega)
  | succ k ih =>
    intro i T e M hk hi hTL hf hR hE
    have htg := tgR_b hbt
    obtain ⟨hkx, hE0, -, -, a5x, a6x, -, a8x⟩ := id hR
    obtain ⟨⟨fs, hO, hF⟩, -, -, h8, hz⟩ := id hkx
    have g103 : fs[103]? = some (.int e) := (fdB_of hO 103).symm.trans a8x
    have g95 : fs[95]? = some (.int (nI T.length)) := (fdB_of hO 95).symm.trans a6x
    refine hz_iload (pc := 69) 0 (hz_dec kX12_solve 35 rfl) rfl ?_
    refine hz_iloadn (pc := 71) 4 (hz_dec kX12_solve 36 rfl) rfl ?_
    refine hz_n_ge (pc := 72) (tgt := 130) (hz_dec kX12_solve 37 rfl) (by decide) (by omega) (by omega) (fun h1 => ?_) (fun h1 => ?_)
    · skip
      exact absurd h1 (by omega)
    · skip
      refine hz_aloadn (pc := 75) 2 (hz_dec kX12_solve 38 rfl) rfl ?_
      refine hz_get (pc := 76) (v := .ref (B + 80)) (hz_dec kX12_solve 39 rfl) fo_X12_261 hO h8 (by omega) (hF.2 94 (by decide) (by decide)) ?_
      refine hz_bipush (pc := 79) (v := nI 72) (hz_dec kX12_solve 40 rfl) (by decide) ?_
      refine hz_lloadn (pc := 81) 3 (hz_dec kX12_solve 41 rfl) rfl ?_
      refine hz_iload (pc := 82) 0 (hz_dec kX12_solve 42 rfl) rfl ?_
      refine hz_i2l (pc := 84) (hz_dec kX12_solve 43 rfl) ?_
      refine hz_ladd (pc := 85) (hz_dec kX12_solve 44 rfl) ?_
      refine hz_callS (pc := 86) (As := [.ref (B + 80), .int (nI 72), .long ((nn) + ((nI (i)).toInt64))]) (st := []) (hz_dec kX12_solve 45 rfl) co_X12_334 sc_X12_putLong (c_putLong (at_ := 72) (v := nn + (nI i).toInt64) hE0.a80 (by omega) (by omega) (by decide) (by decide)) rfl (by decide) ⟨Nat.le_refl _, Nat.le_refl _⟩ (Nat.le_of_ble_eq_true rfl) rfl (fun r9 z9 M9 hp9 => ?_)
      obtain ⟨rfl, rfl, f1, u1, v1, rfl⟩ := hp9
      have hA1 : isA f1 0 (nzT T (nn + (nI i).toInt64)) := nzT_A a5x u1 v1
      have hf1 : mfr B [95, 103] [80] M (va_up M (B + 80) (.inl (1, 4000, .inl (f1)))) := ((mfr.rf (ks := [95, 103]) (os := [80]) ⟨fs, hO, hF⟩).upA (o := 80) rfl (by decide))
      have hE1_ : mdE (va_up M (B + 80) (.inl (1, 4000, .inl (f1)))) B := (hE0.upA (k := 80) (t := 1) (n := 4000) (by decide))
      have hR1 : hmR (va_up M (B + 80) (.inl (1, 4000, .inl (f1)))) z B (hot H (nzT T (nn + (nI i).toInt64)) e) := hmR.t (H := hot H T e) hR hf1 hE1_ (by rw [fA_of (va_up_self _ _ _)]; exact hA1) (by rw [nzT_len]; exact (fdB_of (hz_mne hO (by omega)) 95).trans g95) ((fdB_of (hz_mne hO (by omega)) 103).trans g103)
      generalize (va_up M (B + 80) (.inl (1, 4000, .inl (f1)))) = M1 at *
      obtain ⟨hk1, hE1, ⟨n1, d1, q1⟩, hNd1, a51, a61, a71, a81⟩ := id hR1
      obtain ⟨⟨fs1, hO1, hF1⟩, -, -, -, -⟩ := id hk1
      refine hz_aloadn (pc := 89) 2 (hz_dec kX12_solve 46 rfl) rfl ?_
      refine hz_aloadn (pc := 90) 2 (hz_dec kX12_solve 47 rfl) rfl ?_
      refine hz_get (pc := 91) (v := .ref (B + 80)) (hz_dec kX12_solve 48 rfl) fo_X12_261 hO1 h8 (by omega) (hF1.2 94 (by decide) (by decide)) ?_
      refine hz_iconst (pc := 94) (v := nI 0) (hz_dec kX12_solve 49 rfl) (by decide) ?_
      refine hz_bipush (pc := 95) (v := nI 80) (hz_dec kX12_solve 50 rfl) (by decide) ?_
      have hA11 : isA (fA M1 B 80) 0 (nzT T (nn + (nI i).toInt64)) := a51
      have e80 := shS_of (hdS_A hA11 (by rw [nzT_len]; omega)) (hdS_len (nzT T (nn + (nI i).toInt64)))
      refine hz_callV (pc := 97) (a := B) (As := [.ref (B + 80), .int (nI 0), .int (nI 80)]) (st := []) (hz_dec kX12_solve 51 rfl) co_X12_412 im_X12_twiceOf se_X12_twiceOf rfl hO1 h8 (by omega) (c_twiceOf hk1 hE1.s (at_ := 0) (n := 80) hE1.a80 (by omega) (by omega) (by decide) (by decide)) rfl (by decide) ⟨Nat.le_refl _, Nat.le_refl _⟩ (Nat.le_of_ble_eq_true rfl) rfl (fun r9 z9 M2 hp9 => ?_)
      obtain ⟨rfl, rfl, hf2, hs2, dg, hdg, hdx⟩ := hp9
      rw [e80] at hdx
      have hm2 : mfr B [] [3, 4, 5, 7] M1 M2 := mfr.ofl hk1.1 hf2 rfl
      have hR2 : hmR M2 z B (hot H (nzT T (nn + (nI i).toInt64)) e) := hR1.sc hm2 (hE1.hs hm2 hs2 rfl) rfl rfl rfl rfl rfl rfl rfl rfl rfl rfl rfl rfl rfl rfl rfl rfl rfl rfl rfl
      obtain ⟨hk2, hE2, -, -, a52, a62, -, a82⟩ := id hR2
      obtain ⟨⟨fs2, hO2, hF2⟩, -, -, -, -⟩ := id hk2
      have g1032 : fs2[103]? = some (.int e) := (fdB_of hO2 103).symm.trans a82
      have g952 : fs2[95]? = some (.int (nI (nzT T (nn + (nI i).toInt64)).length)) := (fdB_of hO2 95).symm.trans a62
      refine hz_aloadn (pc := 100) 2 (hz_dec kX12_solve 52 rfl) rfl ?_
      refine hz_dup (pc := 101) (hz_dec kX12_solve 53 rfl) rfl ?_
      refine hz_get (pc := 102) (v := .int e) (hz_dec kX12_solve 54 rfl) fo_X12_280 hO2 h8 (by omega) g1032 ?_
      refine hz_iconst (pc := 105) (v := nI 1) (hz_dec kX12_solve 55 rfl) (by decide) ?_
      refine hz_isub (pc := 106) (hz_dec kX12_solve 56 rfl) ?_
      refine hz_puti (pc := 107) (hz_dec kX12_solve 57 rfl) fo_X12_280 ft_X12_103 hO2 h8 (by omega) (by rw [hF2.1]; decide) ?_
      have hf3 : mfr B [95, 103] [80] M2 (va_up M2 B (.inr (12, (List.set fs2 103 (.int ((e) - (nI (1)))))))) := ((mfr.rf (ks := [95, 103]) (os := [80]) ⟨fs2, hO2, hF2⟩).upO (k := 103) hO2 hF2 rfl rfl)
      have hE3_ : mdE (va_up M2 B (.inr (12, (List.set fs2 103 (.int ((e) - (nI (1)))))))) B := (hE2.upO)
      have hR3 : hmR (va_up M2 B (.inr (12, (List.set fs2 103 (.int ((e) - (nI (1)))))))) z B (hot H (nzT T (nn + (nI i).toInt64)) (e - nI 1)) := hmR.t (H := hot H (nzT T (nn + (nI i).toInt64)) e) hR2 hf3 hE3_ (by rw [fA_c (va_up_ne _ _ (by omega))]; exact a52) ((fdB_of (va_up_self _ _ _) 95).trans ((List.getElem?_set_ne (by decide)).trans g952)) ((fdB_of (va_up_self _ _ _) 103).trans (List.getElem?_set_self (by rw [hF2.1]; decide)))
      have hdg3 : (va_up M2 B (.inr (12, (List.set fs2 103 (.int ((e) - (nI (1)))))))) (B + 5) = .inl (1, 32, .inl dg) := hz_mne hdg (by omega)
      generalize (va_up M2 B (.inr (12, (List.set fs2 103 (.int ((e) - (nI (1)))))))) = M3 at *
      obtain ⟨hk3, hE3, ⟨n3, d3, q3⟩, hNd3, a53, a63, a73, a83⟩ := id hR3
      obtain ⟨⟨fs3, hO3, hF3⟩, -, -, -, -⟩ := id hk3
      refine hz_aloadn (pc := 110) 2 (hz_dec kX12_solve 58 rfl) rfl ?_
      refine hz_iload (pc := 111) 1 (hz_dec kX12_solve 59 rfl) rfl ?_
      refine hz_callV (pc := 113) (a := B) (As := [.int bt]) (st := []) (hz_dec kX12_solve 60 rfl) co_X12_445 im_X12_meets se_X12_meets rfl hO3 h8 (by omega) (c_meets hO3 hF3 h8 hz hE3.t hdg3 hdx (t := bt) (by omega) (by omega)) rfl (by decide) ⟨Nat.le_refl _, Nat.le_refl _⟩ (Nat.le_of_ble_eq_true rfl) rfl (fun r9 z9 M4 hp9 => ?_)
      obtain ⟨rfl, rfl, hf4, ht4, -⟩ := hp9
      have hm4 : mfr B [] [10, 11] M3 M4 := mfr.ofl hk3.1 hf4 rfl
      have hR4 : hmR M4 z B (hot H (nzT T (nn + (nI i).toInt64)) (e - nI 1)) := hR3.sc hm4 (hE3.ht hm4 ht4 rfl) rfl rfl rfl rfl rfl rfl rfl rfl rfl rfl rfl rfl rfl rfl rfl rfl rfl rfl rfl
      have hf04 : frM B M0 M4 := (((hf.tr (hf1.S rfl)).tr (hm2.S rfl)).tr (hf3.S rfl)).tr (hm4.S rfl)
      refine hz_if_eq (pc := 116) (tgt := 124) (hz_dec kX12_solve 61 rfl) (by decide) (fun h2 => ?_) (fun h2 => ?_)
      · skip
        have eR : R = slR nn (tgT bt) k (i + 1) (nzT T (nn + (nI i).toInt64)) (e - nI 1) := hE.trans (if_neg (fun c => by have q : slW T (nn + (nI i).toInt64) (tgT bt) = false := hz_b0 h2; rw [c] at q; cases q))
        refine hz_incN (pc := 124) (i := 5) (lo2 := [(5, .int (nI (i + 1))), (4, .int bt), (0, .ref B), (1, .long nn), (3, .int (nI n))]) 0 (hz_dec kX12_solve 66 rfl) rfl (by decide) rfl ?_
        refine hz_goto (pc := 127) (tgt := 69) (hz_dec kX12_solve 67 rfl) (by decide) ?_
        refine hz_pick (pc := 69) [0, 1, 2, 3, 4] rfl ?_
        exact ih (i + 1) _ _ M4 (by omega) (by omega) (by rw [nzT_len]; exact hTL) hf04 hR4 eR
      · skip
        have eR : R = (nzT T (nn + (nI i).toInt64), e - nI 1, nI (i + 1)) := hE.trans (if_pos (hz_b1 h2))
        refine hz_iload (pc := 119) 0 (hz_dec kX12_solve 62 rfl) rfl ?_
        refine hz_iconst (pc := 121) (v := nI 1) (hz_dec kX12_solve 63 rfl) (by decide) ?_
        refine hz_addN (pc := 122) (hz_dec kX12_solve 64 rfl) ?_
        exact hz_iret (pc := 123) (hz_dec kX12_solve 65 rfl) rfl ⟨by rw [eR], rfl, hf04, by rw [eR]; exact hR4⟩
set_option maxHeartbeats 4000000 in
set_option maxRecDepth 100000 in
theorem c_rsolveB3 {κ : hz_C} {z B : Nat} {M : hz_M} {H : ho_H} (hnn : (hoN H).length ≤ 6) (hT4 : (hoT H).length ≤ 4000) (hR : hmR M z B H) {nn : Int64} {n : Nat} (hn1 : 1 ≤ n) (hn2 : n ≤ 2000) (hL : 80 ≤ (hoT H).length) (ht : tgR (bn_int (lf (hoT H)) 68) = false) : hz_Mt κ xX12_solve 4 0 0 [.ref B, .long nn, .int (nI n)] z M (hmP M z B (.int (-1)) H) := by
  refine hz_ent (lo := [(0, .ref B), (1, .long nn), (3, .int (nI n))]) (by decide) (Nat.le_of_ble_eq_true rfl) rfl ?_
  obtain ⟨hk0_, hE0, ⟨m1, m2, m3⟩, hNd, a5, a6, a7, a8⟩ := id hR
  obtain ⟨⟨fs, hO, hF⟩, -, -, h8, hz⟩ := id hk0_
  obtain ⟨x1, x3, x4, x5, x6, x7, x8⟩ := id m3
  refine hz_aloadn (pc := 0) 0 (hz_dec kX12_solve 0 rfl) rfl ?_
  refine hz_iconst (pc := 1) (v := nI 0) (hz_dec kX12_solve 1 rfl) (by decide) ?_
  refine hz_puti (pc := 2) (hz_dec kX12_solve 2 rfl) fo_X12_302 ft_X12_0 hO h8 (by omega) (by rw [hF.1]; decide) ?_
  have hf1 : mfr B [0, 89] [] M (va_up M B (.inr (12, (List.set fs 0 (.int (nI 0)))))) := (mfr.rf ⟨fs, hO, hF⟩).upO (k := 0) hO hF rfl rfl
  have hR1 : hmR (va_up M B (.inr (12, (List.set fs 0 (.int (nI 0)))))) z B H := hR.m0 hf1 hE0.upO ((fdB_of (va_up_self _ _ _) 89).trans ((List.getElem?_set_ne (by decide)).trans ((fdB_of hO 89).symm.trans x8)))
  generalize (va_up M B (.inr (12, (List.set fs 0 (.int (nI 0)))))) = M1 at *
  obtain ⟨hk1, hE1, ⟨n1, d1, q1⟩, hNd1, a51, a61, a71, a81⟩ := id hR1
  obtain ⟨⟨fs1, hO1, hF1⟩, -, -, -, -⟩ := id hk1
  have g95_1 : fs1[95]? = some (.int (nI ((hoT H).length))) := (fdB_of hO1 95).symm.trans a61
  refine hz_iloadn (pc := 5) 2 (hz_dec kX12_solve 3 rfl) rfl ?_
  refine hz_iconst (pc := 6) (v := nI 1) (hz_dec kX12_solve 4 rfl) (by decide) ?_
  refine hz_n_lt (pc := 7) (tgt := 42) (hz_dec kX12_solve 5 rfl) (by decide) (by omega) (by omega) (fun h1 => ?_) (fun h1 => ?_)
  · skip
    exact absurd h1 (by omega)
  · skip
    refine hz_iloadn (pc := 10) 2 (hz_dec kX12_solve 6 rfl) rfl ?_
    refine hz_sipush (pc := 11) (v := nI 2000) (hz_dec kX12_solve 7 rfl) (by decide) ?_
    refine hz_n_gt (pc := 14) (tgt := 42) (hz_dec kX12_solve 8 rfl) (by decide) (by omega) (by omega) (fun h2 => ?_) (fun h2 => ?_)
    · skip
      exact absurd h2 (by omega)
    · skip
      refine hz_aloadn (pc := 17) 0 (hz_dec kX12_solve 9 rfl) rfl ?_
      refine hz_get (pc := 18) (v := .int (nI ((hoT H).length))) (hz_dec kX12_solve 10 rfl) fo_X12_679 hO1 h8 (by omega) g95_1 ?_
      refine hz_bipush (pc := 21) (v := nI 80) (hz_dec kX12_solve 11 rfl) (by decide) ?_
      refine hz_n_lt (pc := 23) (tgt := 42) (hz_dec kX12_solve 12 rfl) (by decide) (by omega) (by omega) (fun h3 => ?_) (fun h3 => ?_)
      · skip
        exact absurd hL (by omega)
      · skip
        refine hz_aloadn (pc := 26) 0 (hz_dec kX12_solve 13 rfl) rfl ?_
        refine hz_aloadn (pc := 27) 0 (hz_dec kX12_solve 14 rfl) rfl ?_
        refine hz_get (pc := 28) (v := .ref (B + 80)) (hz_dec kX12_solve 15 rfl) fo_X12_261 hO1 h8 (by omega) (hF1.2 94 (by decide) (by decide)) ?_
        refine hz_bipush (pc := 31) (v := nI 68) (hz_dec kX12_solve 16 rfl) (by decide) ?_
        have e68 : bn_int (fA M1 B 80) 68 = bn_int (lf (hoT H)) 68 := by have q := int_of (i := 68) a51 (by omega); rw [Nat.zero_add] at q; exact q
        refine hz_xS (pc := 33) (As := [.ref (B + 80), .int (nI 68)]) (st := [.ref B]) (hz_dec kX12_solve 17 rfl) co_X12_376 sc_X12_intAt (c_intAt (at_ := 68) hE1.a80 (by omega) (by omega) (by decide) (by decide)) rfl (by decide) ⟨Nat.le_refl _, Nat.le_refl _⟩ (Nat.le_of_ble_eq_true rfl) rfl ?_
        refine hz_eqi (pc := 36) e68 ?_
        refine hz_callV (pc := 36) (a := B) (As := [.int (bn_int (lf (hoT H)) 68)]) (st := []) (hz_dec kX12_solve 18 rfl) co_X12_535 im_X12_areRight se_X12_areRight rfl hO1 h8 (by omega) (c_areRight hO1 hF1 h8 hz hE1.t) rfl (by decide) ⟨Nat.le_refl _, Nat.le_refl _⟩ (Nat.le_of_ble_eq_true rfl) rfl (fun r9 z9 M2 hp9 => ?_)
        obtain ⟨rfl, rfl, hf2, ht2, -⟩ := hp9
        have hm2 : mfr B [] [10, 11] M1 M2 := mfr.ofl hk1.1 hf2 rfl
        have hR2 : hmR M2 z B H := hR1.sc hm2 (hE1.ht hm2 ht2 rfl) rfl rfl rfl rfl rfl rfl rfl rfl rfl rfl rfl rfl rfl rfl rfl rfl rfl rfl rfl
        obtain ⟨hk2, hE2, ⟨n2, d2, q2⟩, hNd2, a52, a62, a72, a82⟩ := id hR2
        obtain ⟨⟨fs2, hO2, hF2⟩, -, -, -, -⟩ := id hk2
        have g95_2 : fs2[95]? = some (.int (nI ((hoT H).length))) := (fdB_of hO2 95).symm.trans a62
        have g103_2 : fs2[103]? = some (.int (hoE H)) := (fdB_of hO2 103).symm.trans a82
        refine hz_if_ne (pc := 39) (tgt := 44) (hz_dec kX12_solve 19 rfl) (by decide) (fun h4 => ?_) (fun h4 => ?_)
        · skip
          exact absurd ht (fun c => h4 (by rw [c]; rfl))
        · skip
          refine hz_iconst (pc := 42) (v := (-1)) (hz_dec kX12_solve 20 rfl) (by decide) ?_
          exact hz_iret (pc := 43) (hz_dec kX12_solve 21 rfl) rfl ⟨rfl, rfl, (hf1.S rfl).tr (hm2.S rfl), hR2⟩
set_option maxHeartbeats 4000000 in
set_option maxRecDepth 100000 in
theorem c_rsolveB4 {κ : hz_C} {z B : Nat} {M : hz_M} {H : ho_H} (hnn : (hoN H).length ≤ 6) (hT4 : (hoT H).length ≤ 4000) (hR : hmR M z B H) {nn : Int64} {n : Nat} (hn1 : 1 ≤ n) (hn2 : n ≤ 2000) (hL : 80 ≤ (hoT H).length) (ht : tgR (bn_int (lf (hoT H)) 68) = true) (he : ¬ nI n ≤ hoE H) : hz_Mt κ xX12_solve 4 0 0 [.ref B, .long nn, .int (nI n)] z M (hmP M z B (.int (-3)) H) := by
  refine hz_ent (lo := [(0, .ref B), (1, .long nn), (3, .int (nI n))]) (by decide) (Nat.le_of_ble_eq_true rfl) rfl ?_
  obtain ⟨hk0_, hE0, ⟨m1, m2, m3⟩, hNd, a5, a6, a7, a8⟩ := id hR
  obtain ⟨⟨fs, hO, hF⟩, -, -, h8, hz⟩ := id hk0_
  obtain ⟨x1, x3, x4, x5, x6, x7, x8⟩ := id m3
  refine hz_aloadn (pc := 0) 0 (hz_dec kX12_solve 0 rfl) rfl ?_
  refine hz_iconst (pc := 1) (v := nI 0) (hz_dec kX12_solve 1 rfl) (by decide) ?_
  refine hz_puti (pc := 2) (hz_dec kX12_solve 2 rfl) fo_X12_302 ft_X12_0 hO h8 (by omega) (by rw [hF.1]; decide) ?_
  have hf1 : mfr B [0, 89] [] M (va_up M B (.inr (12, (List.set fs 0 (.int (nI 0)))))) := (mfr.rf ⟨fs, hO, hF⟩).upO (k := 0) hO hF rfl rfl
  have hR1 : hmR (va_up M B (.inr (12, (List.set fs 0 (.int (nI 0)))))) z B H := hR.m0 hf1 hE0.upO ((fdB_of (va_up_self _ _ _) 89).trans ((List.getElem?_set_ne (by decide)).trans ((fdB_of hO 89).symm.trans x8)))
  generalize (va_up M B (.inr (12, (List.set fs 0 (.int (nI 0)))))) = M1 at *
  obtain ⟨hk1, hE1, ⟨n1, d1, q1⟩, hNd1, a51, a61, a71, a81⟩ := id hR1
  obtain ⟨⟨fs1, hO1, hF1⟩, -, -, -, -⟩ := id hk1
  have g95_1 : fs1[95]? = some (.int (nI ((hoT H).length))) := (fdB_of hO1 95).symm.trans a61
  refine hz_iloadn (pc := 5) 2 (hz_dec kX12_solve 3 rfl) rfl ?_
  refine hz_iconst (pc := 6) (v := nI 1) (hz_dec kX12_solve 4 rfl) (by decide) ?_
  refine hz_n_lt (pc := 7) (tgt := 42) (hz_dec kX12_solve 5 rfl) (by decide) (by omega) (by omega) (fun h1 => ?_) (fun h1 => ?_)
  · skip
    exact absurd h1 (by omega)
  · skip
    refine hz_iloadn (pc := 10) 2 (hz_dec kX12_solve 6 rfl) rfl ?_
    refine hz_sipush (pc := 11) (v := nI 2000) (hz_dec kX12_solve 7 rfl) (by decide) ?_
    refine hz_n_gt (pc := 14) (tgt := 42) (hz_dec kX12_solve 8 rfl) (by decide) (by omega) (by omega) (fun h2 => ?_) (fun h2 => ?_)
    · skip
      exact absurd h2 (by omega)
    · skip
      refine hz_aloadn (pc := 17) 0 (hz_dec kX12_solve 9 rfl) rfl ?_
      refine hz_get (pc := 18) (v := .int (nI ((hoT H).length))) (hz_dec kX12_solve 10 rfl) fo_X12_679 hO1 h8 (by omega) g95_1 ?_
      refine hz_bipush (pc := 21) (v := nI 80) (hz_dec kX12_solve 11 rfl) (by decide) ?_
      refine hz_n_lt (pc := 23) (tgt := 42) (hz_dec kX12_solve 12 rfl) (by decide) (by omega) (by omega) (fun h3 => ?_) (fun h3 => ?_)
      · skip
        exact absurd hL (by omega)
      · skip
        refine hz_aloadn (pc := 26) 0 (hz_dec kX12_solve 13 rfl) rfl ?_
        refine hz_aloadn (pc := 27) 0 (hz_dec kX12_solve 14 rfl) rfl ?_
        refine hz_get (pc := 28) (v := .ref (B + 80)) (hz_dec kX12_solve 15 rfl) fo_X12_261 hO1 h8 (by omega) (hF1.2 94 (by decide) (by decide)) ?_
        refine hz_bipush (pc := 31) (v := nI 68) (hz_dec kX12_solve 16 rfl) (by decide) ?_
        have e68 : bn_int (fA M1 B 80) 68 = bn_int (lf (hoT H)) 68 := by have q := int_of (i := 68) a51 (by omega); rw [Nat.zero_add] at q; exact q
        refine hz_xS (pc := 33) (As := [.ref (B + 80), .int (nI 68)]) (st := [.ref B]) (hz_dec kX12_solve 17 rfl) co_X12_376 sc_X12_intAt (c_intAt (at_ := 68) hE1.a80 (by omega) (by omega) (by decide) (by decide)) rfl (by decide) ⟨Nat.le_refl _, Nat.le_refl _⟩ (Nat.le_of_ble_eq_true rfl) rfl ?_
        refine hz_eqi (pc := 36) e68 ?_
        refine hz_callV (pc := 36) (a := B) (As := [.int (bn_int (lf (hoT H)) 68)]) (st := []) (hz_dec kX12_solve 18 rfl) co_X12_535 im_X12_areRight se_X12_areRight rfl hO1 h8 (by omega) (c_areRight hO1 hF1 h8 hz hE1.t) rfl (by decide) ⟨Nat.le_refl _, Nat.le_refl _⟩ (Nat.le_of_ble_eq_true rfl) rfl (fun r9 z9 M2 hp9 => ?_)
        obtain ⟨rfl, rfl, hf2, ht2, -⟩ := hp9
        have hm2 : mfr B [] [10, 11] M1 M2 := mfr.ofl hk1.1 hf2 rfl
        have hR2 : hmR M2 z B H := hR1.sc hm2 (hE1.ht hm2 ht2 rfl) rfl rfl rfl rfl rfl rfl rfl rfl rfl rfl rfl rfl rfl rfl rfl rfl rfl rfl rfl
        obtain ⟨hk2, hE2, ⟨n2, d2, q2⟩, hNd2, a52, a62, a72, a82⟩ := id hR2
        obtain ⟨⟨fs2, hO2, hF2⟩, -, -, -, -⟩ := id hk2
        have g95_2 : fs2[95]? = some (.int (nI ((hoT H).length))) := (fdB_of hO2 95).symm.trans a62
        have g103_2 : fs2[103]? = some (.int (hoE H)) := (fdB_of hO2 103).symm.trans a82
        refine hz_if_ne (pc := 39) (tgt := 44) (hz_dec kX12_solve 19 rfl) (by decide) (fun h4 => ?_) (fun h4 => ?_)
        · skip
          refine hz_iloadn (pc := 44) 2 (hz_dec kX12_solve 22 rfl) rfl ?_
          refine hz_aloadn (pc := 45) 0 (hz_dec kX12_solve 23 rfl) rfl ?_
          refine hz_get (pc := 46) (v := .int (hoE H)) (hz_dec kX12_solve 24 rfl) fo_X12_280 hO2 h8 (by omega) g103_2 ?_
          refine hz_icmp_le (pc := 49) (tgt := 55) (hz_dec kX12_solve 25 rfl) (by decide) (fun h5 => ?_) (fun h5 => ?_)
          · skip
            exact absurd h5 he
          · skip
            refine hz_bipush (pc := 52) (v := (-3)) (hz_dec kX12_solve 26 rfl) (by decide) ?_
            exact hz_iret (pc := 54) (hz_dec kX12_solve 27 rfl) rfl ⟨rfl, rfl, (hf1.S rfl).tr (hm2.S rfl), hR2⟩
        · skip
          exact absurd (hz_b0 h4) (by rw [ht]; decide)
set_option maxHeartbeats 4000000 in
set_option maxRecDepth 100000 in
theorem c_rsolve {κ : hz_C} {z B : Nat} {M : hz_M} {H : ho_H} (hnn : (hoN H).length ≤ 6) (hT4 : (hoT H).length ≤ 4000) (hR : hmR M z B H) {nn : Int64} {n : Nat} (hn1 : 1 ≤ n) (hn2 : n ≤ 2000) (hL : 80 ≤ (hoT H).length) (ht : tgR (bn_int (lf (hoT H)) 68) = true) (he : nI n ≤ hoE H) : hz_Mt κ xX12_solve 4 0 0 [.ref B, .long nn, .int (nI n)] z M (hmP M z B (.int (slR nn (tgT (bn_int (lf (hoT H)) 68)) n 0 (hoT H) (hoE H)).2.2) (hot H (slR nn (tgT (bn_int (lf (hoT H)) 68)) n 0 (hoT H) (hoE H)).1 (slR nn (tgT (bn_int (lf (hoT H)) 68)) n 0 (hoT H) (hoE H)).2.1)) := by
  refine hz_ent (lo := [(0, .ref B), (1, .long nn), (3, .int (nI n))]) (by decide) (Nat.le_of_ble_eq_true rfl) rfl ?_
  obtain ⟨hk0_, hE0, ⟨m1, m2, m3⟩, hNd, a5, a6, a7, a8⟩ := id hR
  obtain ⟨⟨fs, hO, hF⟩, -, -, h8, hz⟩ := id hk0_
  obtain ⟨x1, x3, x4, x5, x6, x7, x8⟩ := id m3
  refine hz_aloadn (pc := 0) 0 (hz_dec kX12_solve 0 rfl) rfl ?_
  refine hz_iconst (pc := 1) (v := nI 0) (hz_dec kX12_solve 1 rfl) (by decide) ?_
  refine hz_puti (pc := 2) (hz_dec kX12_solve 2 rfl) fo_X12_302 ft_X12_0 hO h8 (by omega) (by rw [hF.1]; decide) ?_
  have hf1 : mfr B [0, 89] [] M (va_up M B (.inr (12, (List.set fs 0 (.int (nI 0)))))) := (mfr.rf ⟨fs, hO, hF⟩).upO (k := 0) hO hF rfl rfl
  have hR1 : hmR (va_up M B (.inr (12, (List.set fs 0 (.int (nI 0)))))) z B H := hR.m0 hf1 hE0.upO ((fdB_of (va_up_self _ _ _) 89).trans ((List.getElem?_set_ne (by decide)).trans ((fdB_of hO 89).symm.trans x8)))
  generalize (va_up M B (.inr (12, (List.set fs 0 (.int (nI 0)))))) = M1 at *
  obtain ⟨hk1, hE1, ⟨n1, d1, q1⟩, hNd1, a51, a61, a71, a81⟩ := id hR1
  obtain ⟨⟨fs1, hO1, hF1⟩, -, -, -, -⟩ := id hk1
  have g95_1 : fs1[95]? = some (.int (nI ((hoT H).length))) := (fdB_of hO1 95).symm.trans a61
  refine hz_iloadn (pc := 5) 2 (hz_dec kX12_solve 3 rfl) rfl ?_
  refine hz_iconst (pc := 6) (v := nI 1) (hz_dec kX12_solve 4 rfl) (by decide) ?_
  refine hz_n_lt (pc := 7) (tgt := 42) (hz_dec kX12_solve 5 rfl) (by decide) (by omega) (by omega) (fun h1 => ?_) (fun h1 => ?_)
  · skip
    exact absurd h1 (by omega)
  · skip
    refine hz_iloadn (pc := 10) 2 (hz_dec kX12_solve 6 rfl) rfl ?_
    refine hz_sipush (pc := 11) (v := nI 2000) (hz_dec kX12_solve 7 rfl) (by decide) ?_
    refine hz_n_gt (pc := 14) (tgt := 42) (hz_dec kX12_solve 8 rfl) (by decide) (by omega) (by omega) (fun h2 => ?_) (fun h2 => ?_)
    · skip
      exact absurd h2 (by omega)
    · skip
      refine hz_aloadn (pc := 17) 0 (hz_dec kX12_solve 9 rfl) rfl ?_
      refine hz_get (pc := 18) (v := .int (nI ((hoT H).length))) (hz_dec kX12_solve 10 rfl) fo_X12_679 hO1 h8 (by omega) g95_1 ?_
      refine hz_bipush (pc := 21) (v := nI 80) (hz_dec kX12_solve 11 rfl) (by decide) ?_
      refine hz_n_lt (pc := 23) (tgt := 42) (hz_dec kX12_solve 12 rfl) (by decide) (by omega) (by omega) (fun h3 => ?_) (fun h3 => ?_)
      · skip
        exact absurd hL (by omega)
      · skip
        refine hz_aloadn (pc := 26) 0 (hz_dec kX12_solve 13 rfl) rfl ?_
        refine hz_aloadn (pc := 27) 0 (hz_dec kX12_solve 14 rfl) rfl ?_
        refine hz_get (pc := 28) (v := .ref (B + 80)) (hz_dec kX12_solve 15 rfl) fo_X12_261 hO1 h8 (by omega) (hF1.2 94 (by decide) (by decide)) ?_
        refine hz_bipush (pc := 31) (v := nI 68) (hz_dec kX12_solve 16 rfl) (by decide) ?_
        have e68 : bn_int (fA M1 B 80) 68 = bn_int (lf (hoT H)) 68 := by have q := int_of (i := 68) a51 (by omega); rw [Nat.zero_add] at q; exact q
        refine hz_xS (pc := 33) (As := [.ref (B + 80), .int (nI 68)]) (st := [.ref B]) (hz_dec kX12_solve 17 rfl) co_X12_376 sc_X12_intAt (c_intAt (at_ := 68) hE1.a80 (by omega) (by omega) (by decide) (by decide)) rfl (by decide) ⟨Nat.le_refl _, Nat.le_refl _⟩ (Nat.le_of_ble_eq_true rfl) rfl ?_
        refine hz_eqi (pc := 36) e68 ?_
        refine hz_callV (pc := 36) (a := B) (As := [.int (bn_int (lf (hoT H)) 68)]) (st := []) (hz_dec kX12_solve 18 rfl) co_X12_535 im_X12_areRight se_X12_areRight rfl hO1 h8 (by omega) (c_areRight hO1 hF1 h8 hz hE1.t) rfl (by decide) ⟨Nat.le_refl _, Nat.le_refl _⟩ (Nat.le_of_ble_eq_true rfl) rfl (fun r9 z9 M2 hp9 => ?_)
        obtain ⟨rfl, rfl, hf2, ht2, -⟩ := hp9
        have hm2 : mfr B [] [10, 11] M1 M2 := mfr.ofl hk1.1 hf2 rfl
        have hR2 : hmR M2 z B H := hR1.sc hm2 (hE1.ht hm2 ht2 rfl) rfl rfl rfl rfl rfl rfl rfl rfl rfl rfl rfl rfl rfl rfl rfl rfl rfl rfl rfl
        obtain ⟨hk2, hE2, ⟨n2, d2, q2⟩, hNd2, a52, a62, a72, a82⟩ := id hR2
        obtain ⟨⟨fs2, hO2, hF2⟩, -, -, -, -⟩ := id hk2
        have g95_2 : fs2[95]? = some (.int (nI ((hoT H).length))) := (fdB_of hO2 95).symm.trans a62
        have g103_2 : fs2[103]? = some (.int (hoE H)) := (fdB_of hO2 103).symm.trans a82
        refine hz_if_ne (pc := 39) (tgt := 44) (hz_dec kX12_solve 19 rfl) (by decide) (fun h4 => ?_) (fun h4 => ?_)
        · skip
          refine hz_iloadn (pc := 44) 2 (hz_dec kX12_solve 22 rfl) rfl ?_
          refine hz_aloadn (pc := 45) 0 (hz_dec kX12_solve 23 rfl) rfl ?_
          refine hz_get (pc := 46) (v := .int (hoE H)) (hz_dec kX12_solve 24 rfl) fo_X12_280 hO2 h8 (by omega) g103_2 ?_
          refine hz_icmp_le (pc := 49) (tgt := 55) (hz_dec kX12_solve 25 rfl) (by decide) (fun h5 => ?_) (fun h5 => ?_)
          · skip
            refine hz_aloadn (pc := 55) 0 (hz_dec kX12_solve 28 rfl) rfl ?_
            refine hz_get (pc := 56) (v := .ref (B + 80)) (hz_dec kX12_solve 29 rfl) fo_X12_261 hO2 h8 (by omega) (hF2.2 94 (by decide) (by decide)) ?_
            refine hz_bipush (pc := 59) (v := nI 68) (hz_dec kX12_solve 30 rfl) (by decide) ?_
            have e682 : bn_int (fA M2 B 80) 68 = bn_int (lf (hoT H)) 68 := by have q := int_of (i := 68) a52 (by omega); rw [Nat.zero_add] at q; exact q
            refine hz_xS (pc := 61) (As := [.ref (B + 80), .int (nI 68)]) (st := []) (hz_dec kX12_solve 31 rfl) co_X12_376 sc_X12_intAt (c_intAt (at_ := 68) hE2.a80 (by omega) (by omega) (by decide) (by decide)) rfl (by decide) ⟨Nat.le_refl _, Nat.le_refl _⟩ (Nat.le_of_ble_eq_true rfl) rfl ?_
            refine hz_eqi (pc := 64) e682 ?_
            refine hz_istore (pc := 64) (i := 4) (lo2 := [(4, .int (bn_int (lf (hoT H)) 68)), (0, .ref B), (1, .long nn), (3, .int (nI n))]) (hz_dec kX12_solve 32 rfl) (by decide) rfl ?_
            refine hz_iconst (pc := 66) (v := nI 0) (hz_dec kX12_solve 33 rfl) (by decide) ?_
            refine hz_istore (pc := 67) (i := 5) (lo2 := [(5, .int (nI 0)), (4, .int (bn_int (lf (hoT H)) 68)), (0, .ref B), (1, .long nn), (3, .int (nI n))]) (hz_dec kX12_solve 34 rfl) (by decide) rfl ?_
            refine hz_pick (pc := 69) [0, 1, 2, 3, 4] rfl ?_
            exact c_rsol_l (H := H) ht (L := (hoT H).length) hn2 hL hT4 (R := slR nn (tgT (bn_int (lf (hoT H)) 68)) n 0 (hoT H) (hoE H)) n 0 (hoT H) (hoE H) M2 rfl (by omega) rfl ((hf1.S rfl).tr (hm2.S rfl)) hR2 rfl
          · skip
            exact absurd he h5
        · skip
          exact absurd (hz_b0 h4) (by rw [ht]; decide)
