/-! block -/
set_option maxHeartbeats 4000000 in
set_option maxRecDepth 100000 in
theorem c_blockN {κ : hz_C} {z : Nat} {M : hz_M} {H : ho_H} (hz : 63 + 34 * (hoN H).length ≤ z) (hnn : (hoN H).length ≤ 6) (hT4 : (hoT H).length ≤ 4000) {ll : Nat} {fr kn : Int32} (hR : hcR M z H ll fr kn) {v : Int32} {k wh : Int32} (hv : v < 0 ∨ ¬ v < nI (hoN H).length) : hz_Mt κ xX11_block 2 0 0 [.ref 8, .int v, .int k, .int wh] z M (hcP M z H (.int (-1)) H) := by
  refine hz_ent (lo := [(0, .ref 8), (1, .int v), (2, .int k), (3, .int wh)]) (by decide) (Nat.le_of_ble_eq_true rfl) rfl ?_
  have hH := hR.1
  have hNs := hR.2.1
  obtain ⟨hO, hQ, hD⟩ := id hR.2.2.2.2.1
  obtain ⟨g53, h53⟩ := hR.2.2.2.2.2.1
  have hJ := hR.2.2.2.1
  obtain ⟨g56, h56, hT56⟩ := hR.2.2.2.2.2.2.2.2.2.1
  have hdf := hR.2.2.2.2.2.2.2.2.2.2
  have hck : ck_k M z := hJ.2.2.2.2.2.2.2.1
  have hcs : ck_s M := hJ.2.2.2.2.2.2.2.2.1
  have hz63 : 63 ≤ z := by omega
  refine hz_aloadn (pc := 0) 0 (hz_dec kX11_block 0 rfl) rfl ?_
  refine hz_iloadn (pc := 1) 1 (hz_dec kX11_block 1 rfl) rfl ?_
  refine hz_xV (pc := 2) (a := 8) (As := [.int v]) (st := []) (hz_dec kX11_block 2 rfl) co_X11_162 im_X11_nodeOf se_X11_nodeOf rfl hH (by omega) (by omega) (c_nOfN hz63 hH hnn hNs hv) rfl (by decide) ⟨Nat.le_refl _, Nat.le_refl _⟩ (Nat.le_of_ble_eq_true rfl) rfl ?_
  refine hz_astoreN (pc := 5) (i := 4) (lo2 := [(4, .null), (0, .ref 8), (1, .int v), (2, .int k), (3, .int wh)]) (hz_dec kX11_block 3 rfl) (by decide) rfl ?_
  refine hz_aloadN (pc := 7) 0 (hz_dec kX11_block 4 rfl) rfl ?_
  refine hz_ifnullN (pc := 9) (tgt := 22) (hz_dec kX11_block 5 rfl) (by decide) ?_
  refine hz_iconst (pc := 22) (v := (-1)) (hz_dec kX11_block 11 rfl) (by decide) ?_
  exact hz_iret (pc := 23) (hz_dec kX11_block 12 rfl) rfl (hcP.no hR _)
set_option maxHeartbeats 4000000 in
set_option maxRecDepth 100000 in
theorem c_rblockN {κ : hz_C} {z B : Nat} {M : hz_M} {H : ho_H} (hnn : (hoN H).length ≤ 6) (hT4 : (hoT H).length ≤ 4000) (hR : hmR M z B H) {v : Int32} {k wh : Int32} (hv : v < 0 ∨ ¬ v < nI (hoN H).length) : hz_Mt κ xX12_block 3 0 0 [.ref B, .int v, .int k, .int wh] z M (hmP M z B (.int (-1)) H) := by
  refine hz_ent (lo := [(0, .ref B), (1, .int v), (2, .int k), (3, .int wh)]) (by decide) (Nat.le_of_ble_eq_true rfl) rfl ?_
  obtain ⟨hk0_, hE0, ⟨m1, m2, m3⟩, hNd, a5, a6, a7, a8⟩ := id hR
  obtain ⟨⟨fs, hO, hF⟩, -, -, h8, hz⟩ := id hk0_
  obtain ⟨x1, x3, x4, x5, x6, x7, x8⟩ := id m3
  refine hz_aloadn (pc := 0) 0 (hz_dec kX12_block 0 rfl) rfl ?_
  refine hz_iconst (pc := 1) (v := nI 0) (hz_dec kX12_block 1 rfl) (by decide) ?_
  refine hz_puti (pc := 2) (hz_dec kX12_block 2 rfl) fo_X12_302 ft_X12_0 hO h8 (by omega) (by rw [hF.1]; decide) ?_
  have hf1 : mfr B [0, 89] [] M (va_up M B (.inr (12, (List.set fs 0 (.int (nI 0)))))) := (mfr.rf ⟨fs, hO, hF⟩).upO (k := 0) hO hF rfl rfl
  have hR1 : hmR (va_up M B (.inr (12, (List.set fs 0 (.int (nI 0)))))) z B H := hR.m0 hf1 hE0.upO ((fdB_of (va_up_self _ _ _) 89).trans ((List.getElem?_set_ne (by decide)).trans ((fdB_of hO 89).symm.trans x8)))
  generalize (va_up M B (.inr (12, (List.set fs 0 (.int (nI 0)))))) = M1 at *
  obtain ⟨hk1, hE1, ⟨n1, d1, q1⟩, hNd1, a51, a61, a71, a81⟩ := id hR1
  obtain ⟨⟨fs1, hO1, hF1⟩, -, -, -, -⟩ := id hk1
  refine hz_aloadn (pc := 5) 0 (hz_dec kX12_block 3 rfl) rfl ?_
  refine hz_iloadn (pc := 6) 1 (hz_dec kX12_block 4 rfl) rfl ?_
  refine hz_xV (pc := 7) (a := B) (As := [.int v]) (st := []) (hz_dec kX12_block 5 rfl) co_X12_692 im_X12_stateOf se_X12_stateOf rfl hO1 h8 (by omega) (c_stN hnn hR1 hv) rfl (by decide) ⟨Nat.le_refl _, Nat.le_refl _⟩ (Nat.le_of_ble_eq_true rfl) rfl ?_
  refine hz_istore (pc := 10) (i := 4) (lo2 := [(4, .int (-1)), (0, .ref B), (1, .int v), (2, .int k), (3, .int wh)]) (hz_dec kX12_block 6 rfl) (by decide) rfl ?_
  refine hz_iload (pc := 12) 0 (hz_dec kX12_block 7 rfl) rfl ?_
  refine hz_iconst (pc := 14) (v := (-1)) (hz_dec kX12_block 8 rfl) (by decide) ?_
  refine hz_icmp_eq (pc := 15) (tgt := 28) (hz_dec kX12_block 9 rfl) (by decide) (fun hq1 => ?_) (fun hq1 => ?_)
  · skip
    refine hz_iconst (pc := 28) (v := (-1)) (hz_dec kX12_block 15 rfl) (by decide) ?_
    exact hz_iret (pc := 29) (hz_dec kX12_block 16 rfl) rfl ⟨rfl, rfl, hf1.S rfl, hR1⟩
  · skip
    exact absurd hq1 (by decide)
set_option maxHeartbeats 4000000 in
set_option maxRecDepth 100000 in
theorem c_blockW {κ : hz_C} {z : Nat} {M : hz_M} {H : ho_H} (hz : 63 + 34 * (hoN H).length ≤ z) (hnn : (hoN H).length ≤ 6) (hT4 : (hoT H).length ≤ 4000) {ll : Nat} {fr kn : Int32} (hR : hcR M z H ll fr kn) {v : Nat} (hv : v < (hoN H).length) {N : nd_N} (hN : ndL (hoN H) v = N) {k wh : Int32} (hw : wh < 0 ∨ ¬ wh ≤ nI 6) : hz_Mt κ xX11_block 2 0 0 [.ref 8, .int (nI v), .int k, .int wh] z M (hcP M z H (.int (-1)) H) := by
  refine hz_ent (lo := [(0, .ref 8), (1, .int (nI v)), (2, .int k), (3, .int wh)]) (by decide) (Nat.le_of_ble_eq_true rfl) rfl ?_
  have hH := hR.1
  have hNs := hR.2.1
  obtain ⟨hO, hQ, hD⟩ := id hR.2.2.2.2.1
  obtain ⟨g53, h53⟩ := hR.2.2.2.2.2.1
  have hJ := hR.2.2.2.1
  obtain ⟨g56, h56, hT56⟩ := hR.2.2.2.2.2.2.2.2.2.1
  have hdf := hR.2.2.2.2.2.2.2.2.2.2
  have hck : ck_k M z := hJ.2.2.2.2.2.2.2.1
  have hcs : ck_s M := hJ.2.2.2.2.2.2.2.2.1
  have hz63 : 63 ≤ z := by omega
  have hK := hR.2.2.1 v hv
  rw [hN] at hK
  obtain ⟨hn, ⟨gd, hgd, hgD⟩, hT, hC, hP, hL⟩ := id hK
  refine hz_aloadn (pc := 0) 0 (hz_dec kX11_block 0 rfl) rfl ?_
  refine hz_iloadn (pc := 1) 1 (hz_dec kX11_block 1 rfl) rfl ?_
  refine hz_xV (pc := 2) (a := 8) (As := [.int (nI v)]) (st := []) (hz_dec kX11_block 2 rfl) co_X11_162 im_X11_nodeOf se_X11_nodeOf rfl hH (by omega) (by omega) (c_nOf hz63 hH hnn hNs (b := v) hv) rfl (by decide) ⟨Nat.le_refl _, Nat.le_refl _⟩ (Nat.le_of_ble_eq_true rfl) rfl ?_
  refine hz_astore (pc := 5) (i := 4) (lo2 := [(4, .ref (63 + 34 * v)), (0, .ref 8), (1, .int (nI v)), (2, .int k), (3, .int wh)]) (hz_dec kX11_block 3 rfl) (by decide) rfl ?_
  refine hz_aload (pc := 7) 0 (hz_dec kX11_block 4 rfl) rfl ?_
  refine hz_ifnull (pc := 9) (hz_dec kX11_block 5 rfl) ?_
  refine hz_iloadn (pc := 12) 4 (hz_dec kX11_block 6 rfl) rfl ?_
  refine hz_if_lt (pc := 13) (tgt := 22) (hz_dec kX11_block 7 rfl) (by decide) (fun h1 => ?_) (fun h1 => ?_)
  · skip
    refine hz_iconst (pc := 22) (v := (-1)) (hz_dec kX11_block 11 rfl) (by decide) ?_
    exact hz_iret (pc := 23) (hz_dec kX11_block 12 rfl) rfl (hcP.no hR _)
  · skip
    refine hz_iloadn (pc := 16) 4 (hz_dec kX11_block 8 rfl) rfl ?_
    refine hz_bipush (pc := 17) (v := nI 6) (hz_dec kX11_block 9 rfl) (by decide) ?_
    refine hz_icmp_le (pc := 19) (tgt := 24) (hz_dec kX11_block 10 rfl) (by decide) (fun h2 => ?_) (fun h2 => ?_)
    · skip
      exact absurd h2 (hw.resolve_left h1)
    · skip
      refine hz_iconst (pc := 22) (v := (-1)) (hz_dec kX11_block 11 rfl) (by decide) ?_
      exact hz_iret (pc := 23) (hz_dec kX11_block 12 rfl) rfl (hcP.no hR _)
set_option maxHeartbeats 4000000 in
set_option maxRecDepth 100000 in
theorem c_rblockW {κ : hz_C} {z B : Nat} {M : hz_M} {H : ho_H} (hnn : (hoN H).length ≤ 6) (hT4 : (hoT H).length ≤ 4000) (hR : hmR M z B H) {v : Nat} (hv : v < (hoN H).length) {N : nd_N} (hN : ndL (hoN H) v = N) {k wh : Int32} (hw : wh < 0 ∨ ¬ wh ≤ nI 6) : hz_Mt κ xX12_block 3 0 0 [.ref B, .int (nI v), .int k, .int wh] z M (hmP M z B (.int (-1)) H) := by
  refine hz_ent (lo := [(0, .ref B), (1, .int (nI v)), (2, .int k), (3, .int wh)]) (by decide) (Nat.le_of_ble_eq_true rfl) rfl ?_
  obtain ⟨hk0_, hE0, ⟨m1, m2, m3⟩, hNd, a5, a6, a7, a8⟩ := id hR
  obtain ⟨⟨fs, hO, hF⟩, -, -, h8, hz⟩ := id hk0_
  obtain ⟨x1, x3, x4, x5, x6, x7, x8⟩ := id m3
  refine hz_aloadn (pc := 0) 0 (hz_dec kX12_block 0 rfl) rfl ?_
  refine hz_iconst (pc := 1) (v := nI 0) (hz_dec kX12_block 1 rfl) (by decide) ?_
  refine hz_puti (pc := 2) (hz_dec kX12_block 2 rfl) fo_X12_302 ft_X12_0 hO h8 (by omega) (by rw [hF.1]; decide) ?_
  have hf1 : mfr B [0, 89] [] M (va_up M B (.inr (12, (List.set fs 0 (.int (nI 0)))))) := (mfr.rf ⟨fs, hO, hF⟩).upO (k := 0) hO hF rfl rfl
  have hR1 : hmR (va_up M B (.inr (12, (List.set fs 0 (.int (nI 0)))))) z B H := hR.m0 hf1 hE0.upO ((fdB_of (va_up_self _ _ _) 89).trans ((List.getElem?_set_ne (by decide)).trans ((fdB_of hO 89).symm.trans x8)))
  generalize (va_up M B (.inr (12, (List.set fs 0 (.int (nI 0)))))) = M1 at *
  obtain ⟨hk1, hE1, ⟨n1, d1, q1⟩, hNd1, a51, a61, a71, a81⟩ := id hR1
  obtain ⟨⟨fs1, hO1, hF1⟩, -, -, -, -⟩ := id hk1
  refine hz_aloadn (pc := 5) 0 (hz_dec kX12_block 3 rfl) rfl ?_
  refine hz_iloadn (pc := 6) 1 (hz_dec kX12_block 4 rfl) rfl ?_
  refine hz_xV (pc := 7) (a := B) (As := [.int (nI v)]) (st := []) (hz_dec kX12_block 5 rfl) co_X12_692 im_X12_stateOf se_X12_stateOf rfl hO1 h8 (by omega) (c_st hnn hR1 hv) rfl (by decide) ⟨Nat.le_refl _, Nat.le_refl _⟩ (Nat.le_of_ble_eq_true rfl) rfl ?_
  refine hz_istore (pc := 10) (i := 4) (lo2 := [(4, .int (stI (ndL (hoN H) v).2.1)), (0, .ref B), (1, .int (nI v)), (2, .int k), (3, .int wh)]) (hz_dec kX12_block 6 rfl) (by decide) rfl ?_
  refine hz_iload (pc := 12) 0 (hz_dec kX12_block 7 rfl) rfl ?_
  refine hz_iconst (pc := 14) (v := (-1)) (hz_dec kX12_block 8 rfl) (by decide) ?_
  refine hz_icmp_eq (pc := 15) (tgt := 28) (hz_dec kX12_block 9 rfl) (by decide) (fun h0 => ?_) (fun h0 => ?_)
  · skip
    exact absurd h0 (stI_b _)
  · skip
    refine hz_iloadn (pc := 18) 4 (hz_dec kX12_block 10 rfl) rfl ?_
    refine hz_if_lt (pc := 19) (tgt := 28) (hz_dec kX12_block 11 rfl) (by decide) (fun h1 => ?_) (fun h1 => ?_)
    · skip
      refine hz_iconst (pc := 28) (v := (-1)) (hz_dec kX12_block 15 rfl) (by decide) ?_
      exact hz_iret (pc := 29) (hz_dec kX12_block 16 rfl) rfl ⟨rfl, rfl, hf1.S rfl, hR1⟩
    · skip
      refine hz_iloadn (pc := 22) 4 (hz_dec kX12_block 12 rfl) rfl ?_
      refine hz_bipush (pc := 23) (v := nI 6) (hz_dec kX12_block 13 rfl) (by decide) ?_
      refine hz_icmp_le (pc := 25) (tgt := 30) (hz_dec kX12_block 14 rfl) (by decide) (fun h2 => ?_) (fun h2 => ?_)
      · skip
        exact absurd h2 (hw.resolve_left h1)
      · skip
        refine hz_iconst (pc := 28) (v := (-1)) (hz_dec kX12_block 15 rfl) (by decide) ?_
        exact hz_iret (pc := 29) (hz_dec kX12_block 16 rfl) rfl ⟨rfl, rfl, hf1.S rfl, hR1⟩
set_option maxHeartbeats 4000000 in
set_option maxRecDepth 100000 in
theorem c_blockD {κ : hz_C} {z : Nat} {M : hz_M} {H : ho_H} (hz : 63 + 34 * (hoN H).length ≤ z) (hnn : (hoN H).length ≤ 6) (hT4 : (hoT H).length ≤ 4000) {ll : Nat} {fr kn : Int32} (hR : hcR M z H ll fr kn) {v : Nat} (hv : v < (hoN H).length) {N : nd_N} (hN : ndL (hoN H) v = N) {k : Int32} {wh : Nat} (hw : wh ≤ 6) (hup : N.2.1 = false) : hz_Mt κ xX11_block 2 0 0 [.ref 8, .int (nI v), .int k, .int (nI wh)] z M (hcP M z H (.int (-2)) H) := by
  refine hz_ent (lo := [(0, .ref 8), (1, .int (nI v)), (2, .int k), (3, .int (nI wh))]) (by decide) (Nat.le_of_ble_eq_true rfl) rfl ?_
  have hH := hR.1
  have hNs := hR.2.1
  obtain ⟨hO, hQ, hD⟩ := id hR.2.2.2.2.1
  obtain ⟨g53, h53⟩ := hR.2.2.2.2.2.1
  have hJ := hR.2.2.2.1
  obtain ⟨g56, h56, hT56⟩ := hR.2.2.2.2.2.2.2.2.2.1
  have hdf := hR.2.2.2.2.2.2.2.2.2.2
  have hck : ck_k M z := hJ.2.2.2.2.2.2.2.1
  have hcs : ck_s M := hJ.2.2.2.2.2.2.2.2.1
  have hz63 : 63 ≤ z := by omega
  have hK := hR.2.2.1 v hv
  rw [hN] at hK
  obtain ⟨hn, ⟨gd, hgd, hgD⟩, hT, hC, hP, hL⟩ := id hK
  have hn : M (63 + 34 * v) = ndO (63 + 34 * v) (nI v) (nI 0) (nI (ksN N.1)) (pvI (ksF N.1)) N.2.2.1 N.2.2.2 := by rw [hup] at hn; exact hn
  refine hz_aloadn (pc := 0) 0 (hz_dec kX11_block 0 rfl) rfl ?_
  refine hz_iloadn (pc := 1) 1 (hz_dec kX11_block 1 rfl) rfl ?_
  refine hz_xV (pc := 2) (a := 8) (As := [.int (nI v)]) (st := []) (hz_dec kX11_block 2 rfl) co_X11_162 im_X11_nodeOf se_X11_nodeOf rfl hH (by omega) (by omega) (c_nOf hz63 hH hnn hNs (b := v) hv) rfl (by decide) ⟨Nat.le_refl _, Nat.le_refl _⟩ (Nat.le_of_ble_eq_true rfl) rfl ?_
  refine hz_astore (pc := 5) (i := 4) (lo2 := [(4, .ref (63 + 34 * v)), (0, .ref 8), (1, .int (nI v)), (2, .int k), (3, .int (nI wh))]) (hz_dec kX11_block 3 rfl) (by decide) rfl ?_
  refine hz_aload (pc := 7) 0 (hz_dec kX11_block 4 rfl) rfl ?_
  refine hz_ifnull (pc := 9) (hz_dec kX11_block 5 rfl) ?_
  refine hz_iloadn (pc := 12) 4 (hz_dec kX11_block 6 rfl) rfl ?_
  refine hz_z_lt (pc := 13) (tgt := 22) (hz_dec kX11_block 7 rfl) (by decide) (by omega) ?_
  refine hz_iloadn (pc := 16) 4 (hz_dec kX11_block 8 rfl) rfl ?_
  refine hz_bipush (pc := 17) (v := nI 6) (hz_dec kX11_block 9 rfl) (by decide) ?_
  refine hz_n_le (pc := 19) (tgt := 24) (hz_dec kX11_block 10 rfl) (by decide) (by omega) (by omega) (fun h2 => ?_) (fun h2 => ?_)
  · skip
    refine hz_aload (pc := 24) 0 (hz_dec kX11_block 13 rfl) rfl ?_
    refine hz_get (pc := 26) (hz_dec kX11_block 14 rfl) fo_X11_166 hn (by omega) (by omega) rfl ?_
    refine hz_z_ne (pc := 29) (tgt := 35) (hz_dec kX11_block 15 rfl) (by decide) (by omega) (fun hq1 => ?_) (fun hq1 => ?_)
    · skip
      exact absurd hq1 (by decide)
    · skip
      refine hz_bipush (pc := 32) (v := (-2)) (hz_dec kX11_block 16 rfl) (by decide) ?_
      exact hz_iret (pc := 34) (hz_dec kX11_block 17 rfl) rfl (hcP.no hR _)
  · skip
    exact absurd hw (by omega)
set_option maxHeartbeats 4000000 in
set_option maxRecDepth 100000 in
theorem c_rblockD {κ : hz_C} {z B : Nat} {M : hz_M} {H : ho_H} (hnn : (hoN H).length ≤ 6) (hT4 : (hoT H).length ≤ 4000) (hR : hmR M z B H) {v : Nat} (hv : v < (hoN H).length) {N : nd_N} (hN : ndL (hoN H) v = N) {k : Int32} {wh : Nat} (hw : wh ≤ 6) (hup : N.2.1 = false) : hz_Mt κ xX12_block 3 0 0 [.ref B, .int (nI v), .int k, .int (nI wh)] z M (hmP M z B (.int (-2)) H) := by
  refine hz_ent (lo := [(0, .ref B), (1, .int (nI v)), (2, .int k), (3, .int (nI wh))]) (by decide) (Nat.le_of_ble_eq_true rfl) rfl ?_
  obtain ⟨hk0_, hE0, ⟨m1, m2, m3⟩, hNd, a5, a6, a7, a8⟩ := id hR
  obtain ⟨⟨fs, hO, hF⟩, -, -, h8, hz⟩ := id hk0_
  obtain ⟨x1, x3, x4, x5, x6, x7, x8⟩ := id m3
  have eSt : stI (ndL (hoN H) v).2.1 = (-2) := by rw [hN, hup]; rfl
  refine hz_aloadn (pc := 0) 0 (hz_dec kX12_block 0 rfl) rfl ?_
  refine hz_iconst (pc := 1) (v := nI 0) (hz_dec kX12_block 1 rfl) (by decide) ?_
  refine hz_puti (pc := 2) (hz_dec kX12_block 2 rfl) fo_X12_302 ft_X12_0 hO h8 (by omega) (by rw [hF.1]; decide) ?_
  have hf1 : mfr B [0, 89] [] M (va_up M B (.inr (12, (List.set fs 0 (.int (nI 0)))))) := (mfr.rf ⟨fs, hO, hF⟩).upO (k := 0) hO hF rfl rfl
  have hR1 : hmR (va_up M B (.inr (12, (List.set fs 0 (.int (nI 0)))))) z B H := hR.m0 hf1 hE0.upO ((fdB_of (va_up_self _ _ _) 89).trans ((List.getElem?_set_ne (by decide)).trans ((fdB_of hO 89).symm.trans x8)))
  generalize (va_up M B (.inr (12, (List.set fs 0 (.int (nI 0)))))) = M1 at *
  obtain ⟨hk1, hE1, ⟨n1, d1, q1⟩, hNd1, a51, a61, a71, a81⟩ := id hR1
  obtain ⟨⟨fs1, hO1, hF1⟩, -, -, -, -⟩ := id hk1
  refine hz_aloadn (pc := 5) 0 (hz_dec kX12_block 3 rfl) rfl ?_
  refine hz_iloadn (pc := 6) 1 (hz_dec kX12_block 4 rfl) rfl ?_
  refine hz_xV (pc := 7) (a := B) (As := [.int (nI v)]) (st := []) (hz_dec kX12_block 5 rfl) co_X12_692 im_X12_stateOf se_X12_stateOf rfl hO1 h8 (by omega) (c_st hnn hR1 hv) rfl (by decide) ⟨Nat.le_refl _, Nat.le_refl _⟩ (Nat.le_of_ble_eq_true rfl) rfl ?_
  refine hz_eqi (pc := 10) eSt ?_
  refine hz_istore (pc := 10) (i := 4) (lo2 := [(4, .int (-2)), (0, .ref B), (1, .int (nI v)), (2, .int k), (3, .int (nI wh))]) (hz_dec kX12_block 6 rfl) (by decide) rfl ?_
  refine hz_iload (pc := 12) 0 (hz_dec kX12_block 7 rfl) rfl ?_
  refine hz_iconst (pc := 14) (v := (-1)) (hz_dec kX12_block 8 rfl) (by decide) ?_
  refine hz_icmp_eq (pc := 15) (tgt := 28) (hz_dec kX12_block 9 rfl) (by decide) (fun hq1 => ?_) (fun hq1 => ?_)
  · skip
    exact absurd hq1 (by decide)
  · skip
    refine hz_iloadn (pc := 18) 4 (hz_dec kX12_block 10 rfl) rfl ?_
    refine hz_z_lt (pc := 19) (tgt := 28) (hz_dec kX12_block 11 rfl) (by decide) (by omega) ?_
    refine hz_iloadn (pc := 22) 4 (hz_dec kX12_block 12 rfl) rfl ?_
    refine hz_bipush (pc := 23) (v := nI 6) (hz_dec kX12_block 13 rfl) (by decide) ?_
    refine hz_n_le (pc := 25) (tgt := 30) (hz_dec kX12_block 14 rfl) (by decide) (by omega) (by omega) (fun h2 => ?_) (fun h2 => ?_)
    · skip
      refine hz_iload (pc := 30) 0 (hz_dec kX12_block 17 rfl) rfl ?_
      refine hz_bipush (pc := 32) (v := (-2)) (hz_dec kX12_block 18 rfl) (by decide) ?_
      refine hz_icmp_ne (pc := 34) (tgt := 40) (hz_dec kX12_block 19 rfl) (by decide) (fun hq2 => ?_) (fun hq2 => ?_)
      · skip
        exact absurd hq2 (by decide)
      · skip
        refine hz_bipush (pc := 37) (v := (-2)) (hz_dec kX12_block 20 rfl) (by decide) ?_
        exact hz_iret (pc := 39) (hz_dec kX12_block 21 rfl) rfl ⟨rfl, rfl, hf1.S rfl, hR1⟩
    · skip
      exact absurd hw (by omega)
set_option maxHeartbeats 4000000 in
set_option maxRecDepth 100000 in
theorem c_blockK {κ : hz_C} {z : Nat} {M : hz_M} {H : ho_H} (hz : 63 + 34 * (hoN H).length ≤ z) (hnn : (hoN H).length ≤ 6) (hT4 : (hoT H).length ≤ 4000) {ll : Nat} {fr kn : Int32} (hR : hcR M z H ll fr kn) {v : Nat} (hv : v < (hoN H).length) {N : nd_N} (hN : ndL (hoN H) v = N) {k : Int32} {wh : Nat} (hw : wh ≤ 6) (hup : N.2.1 = true) (hk : k < 0 ∨ ¬ k < nI (ksB N.1).length) (hI : ksI N.1) : hz_Mt κ xX11_block 2 0 0 [.ref 8, .int (nI v), .int k, .int (nI wh)] z M (hcP M z H (.int (-1)) H) := by
  refine hz_ent (lo := [(0, .ref 8), (1, .int (nI v)), (2, .int k), (3, .int (nI wh))]) (by decide) (Nat.le_of_ble_eq_true rfl) rfl ?_
  have hH := hR.1
  have hNs := hR.2.1
  obtain ⟨hO, hQ, hD⟩ := id hR.2.2.2.2.1
  obtain ⟨g53, h53⟩ := hR.2.2.2.2.2.1
  have hJ := hR.2.2.2.1
  obtain ⟨g56, h56, hT56⟩ := hR.2.2.2.2.2.2.2.2.2.1
  have hdf := hR.2.2.2.2.2.2.2.2.2.2
  have hck : ck_k M z := hJ.2.2.2.2.2.2.2.1
  have hcs : ck_s M := hJ.2.2.2.2.2.2.2.2.1
  have hz63 : 63 ≤ z := by omega
  have hK := hR.2.2.1 v hv
  rw [hN] at hK
  obtain ⟨hn, ⟨gd, hgd, hgD⟩, hT, hC, hP, hL⟩ := id hK
  have hn : M (63 + 34 * v) = ndO (63 + 34 * v) (nI v) (nI 1) (nI (ksN N.1)) (pvI (ksF N.1)) N.2.2.1 N.2.2.2 := by rw [hup] at hn; exact hn
  have htO := hT.1
  have htR := hT.2.1.1
  rw [List.length_map] at htR
  obtain ⟨fb, fht, ftm, fbi, t5, t6, t7, t8, tX⟩ := id hT.2.2.2.1
  have hen : (enB (ksB N.1)).length = (ksB N.1).length := enB_len _
  refine hz_aloadn (pc := 0) 0 (hz_dec kX11_block 0 rfl) rfl ?_
  refine hz_iloadn (pc := 1) 1 (hz_dec kX11_block 1 rfl) rfl ?_
  refine hz_xV (pc := 2) (a := 8) (As := [.int (nI v)]) (st := []) (hz_dec kX11_block 2 rfl) co_X11_162 im_X11_nodeOf se_X11_nodeOf rfl hH (by omega) (by omega) (c_nOf hz63 hH hnn hNs (b := v) hv) rfl (by decide) ⟨Nat.le_refl _, Nat.le_refl _⟩ (Nat.le_of_ble_eq_true rfl) rfl ?_
  refine hz_astore (pc := 5) (i := 4) (lo2 := [(4, .ref (63 + 34 * v)), (0, .ref 8), (1, .int (nI v)), (2, .int k), (3, .int (nI wh))]) (hz_dec kX11_block 3 rfl) (by decide) rfl ?_
  refine hz_aload (pc := 7) 0 (hz_dec kX11_block 4 rfl) rfl ?_
  refine hz_ifnull (pc := 9) (hz_dec kX11_block 5 rfl) ?_
  refine hz_iloadn (pc := 12) 4 (hz_dec kX11_block 6 rfl) rfl ?_
  refine hz_z_lt (pc := 13) (tgt := 22) (hz_dec kX11_block 7 rfl) (by decide) (by omega) ?_
  refine hz_iloadn (pc := 16) 4 (hz_dec kX11_block 8 rfl) rfl ?_
  refine hz_bipush (pc := 17) (v := nI 6) (hz_dec kX11_block 9 rfl) (by decide) ?_
  refine hz_n_le (pc := 19) (tgt := 24) (hz_dec kX11_block 10 rfl) (by decide) (by omega) (by omega) (fun h2 => ?_) (fun h2 => ?_)
  · skip
    refine hz_aload (pc := 24) 0 (hz_dec kX11_block 13 rfl) rfl ?_
    refine hz_get (pc := 26) (hz_dec kX11_block 14 rfl) fo_X11_166 hn (by omega) (by omega) rfl ?_
    refine hz_z_ne (pc := 29) (tgt := 35) (hz_dec kX11_block 15 rfl) (by decide) (by omega) (fun hq1 => ?_) (fun hq1 => ?_)
    · skip
      refine hz_aload (pc := 35) 0 (hz_dec kX11_block 18 rfl) rfl ?_
      refine hz_get (pc := 37) (hz_dec kX11_block 19 rfl) fo_X11_104 hn (by omega) (by omega) rfl ?_
      refine hz_astore (pc := 40) (i := 5) (lo2 := [(5, .ref (63 + 34 * v + 21)), (4, .ref (63 + 34 * v)), (0, .ref 8), (1, .int (nI v)), (2, .int k), (3, .int (nI wh))]) (hz_dec kX11_block 20 rfl) (by decide) rfl ?_
      refine hz_iloadn (pc := 42) 4 (hz_dec kX11_block 21 rfl) rfl ?_
      refine hz_if_lt (pc := 43) (tgt := 58) (hz_dec kX11_block 22 rfl) (by decide) (fun h3 => ?_) (fun h3 => ?_)
      · skip
        refine hz_iconst (pc := 58) (v := (-1)) (hz_dec kX11_block 28 rfl) (by decide) ?_
        exact hz_iret (pc := 59) (hz_dec kX11_block 29 rfl) rfl (hcP.no hR _)
      · skip
        refine hz_iloadn (pc := 46) 4 (hz_dec kX11_block 23 rfl) rfl ?_
        refine hz_aload (pc := 47) 0 (hz_dec kX11_block 24 rfl) rfl ?_
        refine hz_get (pc := 49) (hz_dec kX11_block 25 rfl) fo_X11_217 htO (by omega) (by omega) rfl ?_
        refine hz_get (pc := 52) (hz_dec kX11_block 26 rfl) fo_X11_220 htR (by omega) (by omega) rfl ?_
        refine hz_icmp_lt (pc := 55) (tgt := 60) (hz_dec kX11_block 27 rfl) (by decide) (fun h4 => ?_) (fun h4 => ?_)
        · skip
          exact absurd h4 (hk.resolve_left h3)
        · skip
          refine hz_iconst (pc := 58) (v := (-1)) (hz_dec kX11_block 28 rfl) (by decide) ?_
          exact hz_iret (pc := 59) (hz_dec kX11_block 29 rfl) rfl (hcP.no hR _)
    · skip
      exact absurd hq1 (by decide)
  · skip
    exact absurd hw (by omega)
set_option maxHeartbeats 4000000 in
set_option maxRecDepth 100000 in
theorem c_rblockK {κ : hz_C} {z B : Nat} {M : hz_M} {H : ho_H} (hnn : (hoN H).length ≤ 6) (hT4 : (hoT H).length ≤ 4000) (hR : hmR M z B H) {v : Nat} (hv : v < (hoN H).length) {N : nd_N} (hN : ndL (hoN H) v = N) {k : Int32} {wh : Nat} (hw : wh ≤ 6) (hup : N.2.1 = true) (hk : k < 0 ∨ ¬ k < nI (ksB N.1).length) (hI : ksI N.1) : hz_Mt κ xX12_block 3 0 0 [.ref B, .int (nI v), .int k, .int (nI wh)] z M (hmP M z B (.int (-1)) H) := by
  refine hz_ent (lo := [(0, .ref B), (1, .int (nI v)), (2, .int k), (3, .int (nI wh))]) (by decide) (Nat.le_of_ble_eq_true rfl) rfl ?_
  obtain ⟨hk0_, hE0, ⟨m1, m2, m3⟩, hNd, a5, a6, a7, a8⟩ := id hR
  obtain ⟨⟨fs, hO, hF⟩, -, -, h8, hz⟩ := id hk0_
  obtain ⟨x1, x3, x4, x5, x6, x7, x8⟩ := id m3
  have eSt : stI (ndL (hoN H) v).2.1 = nI 0 := by rw [hN, hup]; rfl
  refine hz_aloadn (pc := 0) 0 (hz_dec kX12_block 0 rfl) rfl ?_
  refine hz_iconst (pc := 1) (v := nI 0) (hz_dec kX12_block 1 rfl) (by decide) ?_
  refine hz_puti (pc := 2) (hz_dec kX12_block 2 rfl) fo_X12_302 ft_X12_0 hO h8 (by omega) (by rw [hF.1]; decide) ?_
  have hf1 : mfr B [0, 89] [] M (va_up M B (.inr (12, (List.set fs 0 (.int (nI 0)))))) := (mfr.rf ⟨fs, hO, hF⟩).upO (k := 0) hO hF rfl rfl
  have hR1 : hmR (va_up M B (.inr (12, (List.set fs 0 (.int (nI 0)))))) z B H := hR.m0 hf1 hE0.upO ((fdB_of (va_up_self _ _ _) 89).trans ((List.getElem?_set_ne (by decide)).trans ((fdB_of hO 89).symm.trans x8)))
  generalize (va_up M B (.inr (12, (List.set fs 0 (.int (nI 0)))))) = M1 at *
  obtain ⟨hk1, hE1, ⟨n1, d1, q1⟩, hNd1, a51, a61, a71, a81⟩ := id hR1
  obtain ⟨⟨fs1, hO1, hF1⟩, -, -, -, -⟩ := id hk1
  have h0 : mdN M1 B v N := by have q := hNd1 v hv; rw [hN] at q; exact q
  have hv6 : v < 6 := by omega
  have h01 : mnS M1 B v 1 N.1 (pvI (ksF N.1)) (ksP N.1) := by have q := h0.1; rw [hup] at q; exact q
  have h02 : orX (fA M1 B) v (mkO (ksL N.1)) := by have q := h0.2.1; rw [hup] at q; exact q
  obtain ⟨p1, p2, p3, p4, ⟨p5a, p5b, p5c⟩, p6, p7, p9⟩ := id h01
  have hbp := hI.1.p hI.2.1
  obtain ⟨b1, b2, b3, b4, b5, b6, b7, b8⟩ := id hbp
  refine hz_aloadn (pc := 5) 0 (hz_dec kX12_block 3 rfl) rfl ?_
  refine hz_iloadn (pc := 6) 1 (hz_dec kX12_block 4 rfl) rfl ?_
  refine hz_xV (pc := 7) (a := B) (As := [.int (nI v)]) (st := []) (hz_dec kX12_block 5 rfl) co_X12_692 im_X12_stateOf se_X12_stateOf rfl hO1 h8 (by omega) (c_st hnn hR1 hv) rfl (by decide) ⟨Nat.le_refl _, Nat.le_refl _⟩ (Nat.le_of_ble_eq_true rfl) rfl ?_
  refine hz_eqi (pc := 10) eSt ?_
  refine hz_istore (pc := 10) (i := 4) (lo2 := [(4, .int (nI 0)), (0, .ref B), (1, .int (nI v)), (2, .int k), (3, .int (nI wh))]) (hz_dec kX12_block 6 rfl) (by decide) rfl ?_
  refine hz_iload (pc := 12) 0 (hz_dec kX12_block 7 rfl) rfl ?_
  refine hz_iconst (pc := 14) (v := (-1)) (hz_dec kX12_block 8 rfl) (by decide) ?_
  refine hz_icmp_eq (pc := 15) (tgt := 28) (hz_dec kX12_block 9 rfl) (by decide) (fun hq1 => ?_) (fun hq1 => ?_)
  · skip
    exact absurd hq1 (by decide)
  · skip
    refine hz_iloadn (pc := 18) 4 (hz_dec kX12_block 10 rfl) rfl ?_
    refine hz_z_lt (pc := 19) (tgt := 28) (hz_dec kX12_block 11 rfl) (by decide) (by omega) ?_
    refine hz_iloadn (pc := 22) 4 (hz_dec kX12_block 12 rfl) rfl ?_
    refine hz_bipush (pc := 23) (v := nI 6) (hz_dec kX12_block 13 rfl) (by decide) ?_
    refine hz_n_le (pc := 25) (tgt := 30) (hz_dec kX12_block 14 rfl) (by decide) (by omega) (by omega) (fun h2 => ?_) (fun h2 => ?_)
    · skip
      refine hz_iload (pc := 30) 0 (hz_dec kX12_block 17 rfl) rfl ?_
      refine hz_bipush (pc := 32) (v := (-2)) (hz_dec kX12_block 18 rfl) (by decide) ?_
      refine hz_icmp_ne (pc := 34) (tgt := 40) (hz_dec kX12_block 19 rfl) (by decide) (fun hq2 => ?_) (fun hq2 => ?_)
      · skip
        refine hz_iloadn (pc := 40) 3 (hz_dec kX12_block 22 rfl) rfl ?_
        refine hz_if_lt (pc := 41) (tgt := 54) (hz_dec kX12_block 23 rfl) (by decide) (fun h3 => ?_) (fun h3 => ?_)
        · skip
          refine hz_iconst (pc := 54) (v := (-1)) (hz_dec kX12_block 30 rfl) (by decide) ?_
          exact hz_iret (pc := 55) (hz_dec kX12_block 31 rfl) rfl ⟨rfl, rfl, hf1.S rfl, hR1⟩
        · skip
          refine hz_iloadn (pc := 44) 3 (hz_dec kX12_block 24 rfl) rfl ?_
          refine hz_aloadn (pc := 45) 1 (hz_dec kX12_block 25 rfl) rfl ?_
          refine hz_get (pc := 46) (v := .ref (B + 20)) (hz_dec kX12_block 26 rfl) fo_X12_71 hO1 h8 (by omega) (hF1.2 22 (by decide) (by decide)) ?_
          refine hz_iloadn (pc := 49) 2 (hz_dec kX12_block 27 rfl) rfl ?_
          refine hz_iald (pc := 50) (j := v) (hz_dec kX12_block 28 rfl) hE1.a20 (by omega) (by omega) rfl (by omega) (by decide) ?_
          refine hz_eqi (pc := 51) p5b.1 ?_
          refine hz_icmp_lt (pc := 51) (tgt := 56) (hz_dec kX12_block 29 rfl) (by decide) (fun h4 => ?_) (fun h4 => ?_)
          · skip
            exact absurd h4 (hk.resolve_left h3)
          · skip
            refine hz_iconst (pc := 54) (v := (-1)) (hz_dec kX12_block 30 rfl) (by decide) ?_
            exact hz_iret (pc := 55) (hz_dec kX12_block 31 rfl) rfl ⟨rfl, rfl, hf1.S rfl, hR1⟩
      · skip
        exact absurd hq2 (by decide)
    · skip
      exact absurd hw (by omega)
theorem blk_p {en : List en_E} (h : wfE en) {k : Nat} (hk : k < en.length) {nb : Nat} (hb : k < nb) (hn : nb < 1000) : (k = 0 → rpI nb (eP en k) < 0) ∧ (¬ k = 0 → 0 ≤ rpI nb (eP en k)) ∧ (¬ k = 0 → rpI nb (eP en k) = pvI (eP en k)) := by
  obtain ⟨w1, w2, -⟩ := h k hk
  cases e : eP en k with
  | none => exact ⟨fun _ => (by decide : (-1 : Int32) < 0), fun c => absurd (w2 e).1 c, fun c => absurd (w2 e).1 c⟩
  | some p =>
    have q := (w1 p e).1
    have r : rpI nb (some p) = nI p := by show nI (rx nb p) = nI p; rw [rx_lt (by omega)]
    refine ⟨fun c => by omega, fun _ => ?_, fun _ => r⟩
    rw [r, Int32.le_iff_toInt_le, nI_toInt (by omega)]
    show (0 : Int) ≤ (p : Int)
    omega
set_option maxHeartbeats 4000000 in
set_option maxRecDepth 100000 in
theorem c_block0 {κ : hz_C} {z : Nat} {M : hz_M} {H : ho_H} (hz : 63 + 34 * (hoN H).length ≤ z) (hnn : (hoN H).length ≤ 6) (hT4 : (hoT H).length ≤ 4000) {ll : Nat} {fr kn : Int32} (hR : hcR M z H ll fr kn) {v : Nat} (hv : v < (hoN H).length) {N : nd_N} (hN : ndL (hoN H) v = N) {k : Nat} (hk : k < (ksB N.1).length) (hup : N.2.1 = true) (hI : ksI N.1) : hz_Mt κ xX11_block 2 0 0 [.ref 8, .int (nI v), .int (nI k), .int (nI 0)] z M (hcP M z H (.int (if k = 0 then -4 else pvI (eP (enB (ksB N.1)) k))) H) := by
  refine hz_ent (lo := [(0, .ref 8), (1, .int (nI v)), (2, .int (nI k)), (3, .int (nI 0))]) (by decide) (Nat.le_of_ble_eq_true rfl) rfl ?_
  have hH := hR.1
  have hNs := hR.2.1
  obtain ⟨hO, hQ, hD⟩ := id hR.2.2.2.2.1
  obtain ⟨g53, h53⟩ := hR.2.2.2.2.2.1
  have hJ := hR.2.2.2.1
  obtain ⟨g56, h56, hT56⟩ := hR.2.2.2.2.2.2.2.2.2.1
  have hdf := hR.2.2.2.2.2.2.2.2.2.2
  have hck : ck_k M z := hJ.2.2.2.2.2.2.2.1
  have hcs : ck_s M := hJ.2.2.2.2.2.2.2.2.1
  have hz63 : 63 ≤ z := by omega
  have hK := hR.2.2.1 v hv
  rw [hN] at hK
  obtain ⟨hn, ⟨gd, hgd, hgD⟩, hT, hC, hP, hL⟩ := id hK
  have hn : M (63 + 34 * v) = ndO (63 + 34 * v) (nI v) (nI 1) (nI (ksN N.1)) (pvI (ksF N.1)) N.2.2.1 N.2.2.2 := by rw [hup] at hn; exact hn
  have htO := hT.1
  have htR := hT.2.1.1
  rw [List.length_map] at htR
  obtain ⟨fb, fht, ftm, fbi, t5, t6, t7, t8, tX⟩ := id hT.2.2.2.1
  have hen : (enB (ksB N.1)).length = (ksB N.1).length := enB_len _
  have hrx := hT.2.1
  obtain ⟨fB, gB, hfB, hgB, hxB⟩ := hrx.2.2.2
  have hg1 : gB k = nI (offL ((ksB N.1).map Prod.fst) k) := hxB.1 k (by rw [List.length_map]; omega)
  have hbx : blX (ksB N.1) := hI.1.2.2.2.2.2.1
  have hbl := (hbx k hk).f
  have hoo : offL ((ksB N.1).map Prod.fst) k + (bBy (ksB N.1) k).length ≤ 12391 := by have r := offL_mono ((ksB N.1).map Prod.fst) (ksB N.1).length (k + 1) (by omega); simp only [offL] at r; rw [rowL_bl] at r; have r2 := hrx.2.2.1; rw [List.length_map] at r2; omega
  have hB80 : fB (offL ((ksB N.1).map Prod.fst) k + 80) = lf (bBy (ksB N.1) k) 80 := by have q := hxB.2 k (by rw [List.length_map]; exact hk) 80; rw [rowL_bl] at q; exact q (by omega)
  have hb113 := hI.1.top.2.1
  refine hz_aloadn (pc := 0) 0 (hz_dec kX11_block 0 rfl) rfl ?_
  refine hz_iloadn (pc := 1) 1 (hz_dec kX11_block 1 rfl) rfl ?_
  refine hz_xV (pc := 2) (a := 8) (As := [.int (nI v)]) (st := []) (hz_dec kX11_block 2 rfl) co_X11_162 im_X11_nodeOf se_X11_nodeOf rfl hH (by omega) (by omega) (c_nOf hz63 hH hnn hNs (b := v) hv) rfl (by decide) ⟨Nat.le_refl _, Nat.le_refl _⟩ (Nat.le_of_ble_eq_true rfl) rfl ?_
  refine hz_astore (pc := 5) (i := 4) (lo2 := [(4, .ref (63 + 34 * v)), (0, .ref 8), (1, .int (nI v)), (2, .int (nI k)), (3, .int (nI 0))]) (hz_dec kX11_block 3 rfl) (by decide) rfl ?_
  refine hz_aload (pc := 7) 0 (hz_dec kX11_block 4 rfl) rfl ?_
  refine hz_ifnull (pc := 9) (hz_dec kX11_block 5 rfl) ?_
  refine hz_iloadn (pc := 12) 4 (hz_dec kX11_block 6 rfl) rfl ?_
  refine hz_z_lt (pc := 13) (tgt := 22) (hz_dec kX11_block 7 rfl) (by decide) (by omega) ?_
  refine hz_iloadn (pc := 16) 4 (hz_dec kX11_block 8 rfl) rfl ?_
  refine hz_bipush (pc := 17) (v := nI 6) (hz_dec kX11_block 9 rfl) (by decide) ?_
  refine hz_n_le (pc := 19) (tgt := 24) (hz_dec kX11_block 10 rfl) (by decide) (by omega) (by omega) (fun hq2 => ?_) (fun hq2 => ?_)
  · skip
    refine hz_aload (pc := 24) 0 (hz_dec kX11_block 13 rfl) rfl ?_
    refine hz_get (pc := 26) (hz_dec kX11_block 14 rfl) fo_X11_166 hn (by omega) (by omega) rfl ?_
    refine hz_z_ne (pc := 29) (tgt := 35) (hz_dec kX11_block 15 rfl) (by decide) (by omega) (fun hq3 => ?_) (fun hq3 => ?_)
    · skip
      refine hz_aload (pc := 35) 0 (hz_dec kX11_block 18 rfl) rfl ?_
      refine hz_get (pc := 37) (hz_dec kX11_block 19 rfl) fo_X11_104 hn (by omega) (by omega) rfl ?_
      refine hz_astore (pc := 40) (i := 5) (lo2 := [(5, .ref (63 + 34 * v + 21)), (4, .ref (63 + 34 * v)), (0, .ref 8), (1, .int (nI v)), (2, .int (nI k)), (3, .int (nI 0))]) (hz_dec kX11_block 20 rfl) (by decide) rfl ?_
      refine hz_iloadn (pc := 42) 4 (hz_dec kX11_block 21 rfl) rfl ?_
      refine hz_z_lt (pc := 43) (tgt := 58) (hz_dec kX11_block 22 rfl) (by decide) (by omega) ?_
      refine hz_iloadn (pc := 46) 4 (hz_dec kX11_block 23 rfl) rfl ?_
      refine hz_aload (pc := 47) 0 (hz_dec kX11_block 24 rfl) rfl ?_
      refine hz_get (pc := 49) (hz_dec kX11_block 25 rfl) fo_X11_217 htO (by omega) (by omega) rfl ?_
      refine hz_get (pc := 52) (hz_dec kX11_block 26 rfl) fo_X11_220 htR (by omega) (by omega) rfl ?_
      refine hz_n_lt (pc := 55) (tgt := 60) (hz_dec kX11_block 27 rfl) (by decide) (by omega) (by omega) (fun h3 => ?_) (fun h3 => ?_)
      · skip
        refine hz_iloadn (pc := 60) 5 (hz_dec kX11_block 30 rfl) rfl ?_
        refine hz_swIn (pc := 61) (off := 39) (tgt := 100) (hz_dec kX11_block 31 rfl) (by decide) (by decide) rfl (by decide) ?_
        refine hz_iloadn (pc := 100) 4 (hz_dec kX11_block 32 rfl) rfl ?_
        refine hz_z_ne (pc := 101) (tgt := 109) (hz_dec kX11_block 33 rfl) (by decide) (by omega) (fun h5 => ?_) (fun h5 => ?_)
        · skip
          have hk0 : ¬ k = 0 := by omega
          refine hz_aload (pc := 109) 0 (hz_dec kX11_block 36 rfl) rfl ?_
          refine hz_get (pc := 111) (hz_dec kX11_block 37 rfl) fo_X11_386 htO (by omega) (by omega) rfl ?_
          refine hz_iloadn (pc := 114) 4 (hz_dec kX11_block 38 rfl) rfl ?_
          refine hz_iald (pc := 115) (j := k) (hz_dec kX11_block 39 rfl) t5 (by omega) (by omega) rfl (by omega) (by decide) ?_
          refine hz_eqi (pc := 116) (tX k (by omega)).1 ?_
          exact hz_iret (pc := 116) (hz_dec kX11_block 40 rfl) rfl (by rw [if_neg hk0]; exact hcP.no hR _)
        · skip
          refine hz_bipush (pc := 104) (v := (-4)) (hz_dec kX11_block 34 rfl) (by decide) ?_
          refine hz_goto (pc := 106) (tgt := 116) (hz_dec kX11_block 35 rfl) (by decide) ?_
          exact hz_iret (pc := 116) (hz_dec kX11_block 40 rfl) rfl (by rw [if_pos h5]; exact hcP.no hR _)
      · skip
        exact absurd hk (by omega)
    · skip
      exact absurd hq3 (by decide)
  · skip
    exact absurd hq2 (by decide)
set_option maxHeartbeats 4000000 in
set_option maxRecDepth 100000 in
theorem c_rblock0 {κ : hz_C} {z B : Nat} {M : hz_M} {H : ho_H} (hnn : (hoN H).length ≤ 6) (hT4 : (hoT H).length ≤ 4000) (hR : hmR M z B H) {v : Nat} (hv : v < (hoN H).length) {N : nd_N} (hN : ndL (hoN H) v = N) {k : Nat} (hk : k < (ksB N.1).length) (hup : N.2.1 = true) (hI : ksI N.1) : hz_Mt κ xX12_block 3 0 0 [.ref B, .int (nI v), .int (nI k), .int (nI 0)] z M (hmP M z B (.int (if k = 0 then -4 else pvI (eP (enB (ksB N.1)) k))) H) := by
  refine hz_ent (lo := [(0, .ref B), (1, .int (nI v)), (2, .int (nI k)), (3, .int (nI 0))]) (by decide) (Nat.le_of_ble_eq_true rfl) rfl ?_
  obtain ⟨hk0_, hE0, ⟨m1, m2, m3⟩, hNd, a5, a6, a7, a8⟩ := id hR
  obtain ⟨⟨fs, hO, hF⟩, -, -, h8, hz⟩ := id hk0_
  obtain ⟨x1, x3, x4, x5, x6, x7, x8⟩ := id m3
  have eSt : stI (ndL (hoN H) v).2.1 = nI 0 := by rw [hN, hup]; rfl
  refine hz_aloadn (pc := 0) 0 (hz_dec kX12_block 0 rfl) rfl ?_
  refine hz_iconst (pc := 1) (v := nI 0) (hz_dec kX12_block 1 rfl) (by decide) ?_
  refine hz_puti (pc := 2) (hz_dec kX12_block 2 rfl) fo_X12_302 ft_X12_0 hO h8 (by omega) (by rw [hF.1]; decide) ?_
  have hf1 : mfr B [0, 89] [] M (va_up M B (.inr (12, (List.set fs 0 (.int (nI 0)))))) := (mfr.rf ⟨fs, hO, hF⟩).upO (k := 0) hO hF rfl rfl
  have hR1 : hmR (va_up M B (.inr (12, (List.set fs 0 (.int (nI 0)))))) z B H := hR.m0 hf1 hE0.upO ((fdB_of (va_up_self _ _ _) 89).trans ((List.getElem?_set_ne (by decide)).trans ((fdB_of hO 89).symm.trans x8)))
  generalize (va_up M B (.inr (12, (List.set fs 0 (.int (nI 0)))))) = M1 at *
  obtain ⟨hk1, hE1, ⟨n1, d1, q1⟩, hNd1, a51, a61, a71, a81⟩ := id hR1
  obtain ⟨⟨fs1, hO1, hF1⟩, -, -, -, -⟩ := id hk1
  have h0 : mdN M1 B v N := by have q := hNd1 v hv; rw [hN] at q; exact q
  have hv6 : v < 6 := by omega
  have h01 : mnS M1 B v 1 N.1 (pvI (ksF N.1)) (ksP N.1) := by have q := h0.1; rw [hup] at q; exact q
  have h02 : orX (fA M1 B) v (mkO (ksL N.1)) := by have q := h0.2.1; rw [hup] at q; exact q
  obtain ⟨p1, p2, p3, p4, ⟨p5a, p5b, p5c⟩, p6, p7, p9⟩ := id h01
  have hbp := hI.1.p hI.2.1
  obtain ⟨b1, b2, b3, b4, b5, b6, b7, b8⟩ := id hbp
  refine hz_aloadn (pc := 5) 0 (hz_dec kX12_block 3 rfl) rfl ?_
  refine hz_iloadn (pc := 6) 1 (hz_dec kX12_block 4 rfl) rfl ?_
  refine hz_xV (pc := 7) (a := B) (As := [.int (nI v)]) (st := []) (hz_dec kX12_block 5 rfl) co_X12_692 im_X12_stateOf se_X12_stateOf rfl hO1 h8 (by omega) (c_st hnn hR1 hv) rfl (by decide) ⟨Nat.le_refl _, Nat.le_refl _⟩ (Nat.le_of_ble_eq_true rfl) rfl ?_
  refine hz_eqi (pc := 10) eSt ?_
  refine hz_istore (pc := 10) (i := 4) (lo2 := [(4, .int (nI 0)), (0, .ref B), (1, .int (nI v)), (2, .int (nI k)), (3, .int (nI 0))]) (hz_dec kX12_block 6 rfl) (by decide) rfl ?_
  refine hz_iload (pc := 12) 0 (hz_dec kX12_block 7 rfl) rfl ?_
  refine hz_iconst (pc := 14) (v := (-1)) (hz_dec kX12_block 8 rfl) (by decide) ?_
  refine hz_icmp_eq (pc := 15) (tgt := 28) (hz_dec kX12_block 9 rfl) (by decide) (fun hq1 => ?_) (fun hq1 => ?_)
  · skip
    exact absurd hq1 (by decide)
  · skip
    refine hz_iloadn (pc := 18) 4 (hz_dec kX12_block 10 rfl) rfl ?_
    refine hz_z_lt (pc := 19) (tgt := 28) (hz_dec kX12_block 11 rfl) (by decide) (by omega) ?_
    refine hz_iloadn (pc := 22) 4 (hz_dec kX12_block 12 rfl) rfl ?_
    refine hz_bipush (pc := 23) (v := nI 6) (hz_dec kX12_block 13 rfl) (by decide) ?_
    refine hz_n_le (pc := 25) (tgt := 30) (hz_dec kX12_block 14 rfl) (by decide) (by omega) (by omega) (fun hq3 => ?_) (fun hq3 => ?_)
    · skip
      refine hz_iload (pc := 30) 0 (hz_dec kX12_block 17 rfl) rfl ?_
      refine hz_bipush (pc := 32) (v := (-2)) (hz_dec kX12_block 18 rfl) (by decide) ?_
      refine hz_icmp_ne (pc := 34) (tgt := 40) (hz_dec kX12_block 19 rfl) (by decide) (fun hq4 => ?_) (fun hq4 => ?_)
      · skip
        refine hz_iloadn (pc := 40) 3 (hz_dec kX12_block 22 rfl) rfl ?_
        refine hz_z_lt (pc := 41) (tgt := 54) (hz_dec kX12_block 23 rfl) (by decide) (by omega) ?_
        refine hz_iloadn (pc := 44) 3 (hz_dec kX12_block 24 rfl) rfl ?_
        refine hz_aloadn (pc := 45) 1 (hz_dec kX12_block 25 rfl) rfl ?_
        refine hz_get (pc := 46) (v := .ref (B + 20)) (hz_dec kX12_block 26 rfl) fo_X12_71 hO1 h8 (by omega) (hF1.2 22 (by decide) (by decide)) ?_
        refine hz_iloadn (pc := 49) 2 (hz_dec kX12_block 27 rfl) rfl ?_
        refine hz_iald (pc := 50) (j := v) (hz_dec kX12_block 28 rfl) hE1.a20 (by omega) (by omega) rfl (by omega) (by decide) ?_
        refine hz_eqi (pc := 51) p5b.1 ?_
        refine hz_n_lt (pc := 51) (tgt := 56) (hz_dec kX12_block 29 rfl) (by decide) (by omega) (by omega) (fun h3 => ?_) (fun h3 => ?_)
        · skip
          refine hz_iloadn (pc := 56) 2 (hz_dec kX12_block 32 rfl) rfl ?_
          refine hz_iloadn (pc := 57) 3 (hz_dec kX12_block 33 rfl) rfl ?_
          refine hz_xS (pc := 58) (As := [.int (nI v), .int (nI k)]) (st := []) (hz_dec kX12_block 34 rfl) co_X12_419 sc_X12_at0 (c_at0 (v := v) (y := k)) rfl (by decide) ⟨Nat.le_refl _, Nat.le_refl _⟩ (Nat.le_of_ble_eq_true rfl) rfl ?_
          refine hz_istore (pc := 61) (i := 5) (lo2 := [(5, .int (nI (128 * v + k))), (4, .int (nI 0)), (0, .ref B), (1, .int (nI v)), (2, .int (nI k)), (3, .int (nI 0))]) (hz_dec kX12_block 35 rfl) (by decide) rfl ?_
          refine hz_iloadn (pc := 63) 5 (hz_dec kX12_block 36 rfl) rfl ?_
          refine hz_swIn (pc := 64) (off := 40) (tgt := 104) (hz_dec kX12_block 37 rfl) (by decide) (by decide) rfl (by decide) ?_
          refine hz_aloadn (pc := 104) 2 (hz_dec kX12_block 38 rfl) rfl ?_
          refine hz_get (pc := 105) (v := .ref (B + 26)) (hz_dec kX12_block 39 rfl) fo_X12_89 hO1 h8 (by omega) (hF1.2 28 (by decide) (by decide)) ?_
          refine hz_iload (pc := 108) 0 (hz_dec kX12_block 40 rfl) rfl ?_
          refine hz_iald (pc := 110) (j := 128 * v + k) (hz_dec kX12_block 41 rfl) hE1.a26 (by omega) (by omega) rfl (by omega) (by decide) ?_
          refine hz_eqi (pc := 111) ((p5a k (by omega)).1 hk).1 ?_
          have hkp := blk_p b3 (b2.symm ▸ hk) hk (by omega)
          refine hz_if_ge (pc := 111) (tgt := 119) (hz_dec kX12_block 42 rfl) (by decide) (fun h5 => ?_) (fun h5 => ?_)
          · skip
            have e5 : ¬ k = 0 := fun c => absurd h5 (Int32.not_le.mpr (hkp.1 c))
            refine hz_aloadn (pc := 119) 2 (hz_dec kX12_block 45 rfl) rfl ?_
            refine hz_get (pc := 120) (v := .ref (B + 26)) (hz_dec kX12_block 46 rfl) fo_X12_89 hO1 h8 (by omega) (hF1.2 28 (by decide) (by decide)) ?_
            refine hz_iload (pc := 123) 0 (hz_dec kX12_block 47 rfl) rfl ?_
            refine hz_iald (pc := 125) (j := 128 * v + k) (hz_dec kX12_block 48 rfl) hE1.a26 (by omega) (by omega) rfl (by omega) (by decide) ?_
            refine hz_eqi (pc := 126) ((p5a k (by omega)).1 hk).1 ?_
            exact hz_iret (pc := 126) (hz_dec kX12_block 49 rfl) rfl ⟨by rw [if_neg e5, hkp.2.2 e5], rfl, hf1.S rfl, hR1⟩
          · skip
            have e5 : k = 0 := Decidable.byContradiction (fun c => h5 (hkp.2.1 c))
            refine hz_bipush (pc := 114) (v := (-4)) (hz_dec kX12_block 43 rfl) (by decide) ?_
            refine hz_goto (pc := 116) (tgt := 126) (hz_dec kX12_block 44 rfl) (by decide) ?_
            exact hz_iret (pc := 126) (hz_dec kX12_block 49 rfl) rfl ⟨by rw [if_pos e5], rfl, hf1.S rfl, hR1⟩
        · skip
          exact absurd hk (by omega)
      · skip
        exact absurd hq4 (by decide)
    · skip
      exact absurd hq3 (by decide)
set_option maxHeartbeats 4000000 in
set_option maxRecDepth 100000 in
theorem c_block1 {κ : hz_C} {z : Nat} {M : hz_M} {H : ho_H} (hz : 63 + 34 * (hoN H).length ≤ z) (hnn : (hoN H).length ≤ 6) (hT4 : (hoT H).length ≤ 4000) {ll : Nat} {fr kn : Int32} (hR : hcR M z H ll fr kn) {v : Nat} (hv : v < (hoN H).length) {N : nd_N} (hN : ndL (hoN H) v = N) {k : Nat} (hk : k < (ksB N.1).length) (hup : N.2.1 = true) (hI : ksI N.1) : hz_Mt κ xX11_block 2 0 0 [.ref 8, .int (nI v), .int (nI k), .int (nI 1)] z M (hcP M z H (.int (nI (eH (enB (ksB N.1)) k))) H) := by
  refine hz_ent (lo := [(0, .ref 8), (1, .int (nI v)), (2, .int (nI k)), (3, .int (nI 1))]) (by decide) (Nat.le_of_ble_eq_true rfl) rfl ?_
  have hH := hR.1
  have hNs := hR.2.1
  obtain ⟨hO, hQ, hD⟩ := id hR.2.2.2.2.1
  obtain ⟨g53, h53⟩ := hR.2.2.2.2.2.1
  have hJ := hR.2.2.2.1
  obtain ⟨g56, h56, hT56⟩ := hR.2.2.2.2.2.2.2.2.2.1
  have hdf := hR.2.2.2.2.2.2.2.2.2.2
  have hck : ck_k M z := hJ.2.2.2.2.2.2.2.1
  have hcs : ck_s M := hJ.2.2.2.2.2.2.2.2.1
  have hz63 : 63 ≤ z := by omega
  have hK := hR.2.2.1 v hv
  rw [hN] at hK
  obtain ⟨hn, ⟨gd, hgd, hgD⟩, hT, hC, hP, hL⟩ := id hK
  have hn : M (63 + 34 * v) = ndO (63 + 34 * v) (nI v) (nI 1) (nI (ksN N.1)) (pvI (ksF N.1)) N.2.2.1 N.2.2.2 := by rw [hup] at hn; exact hn
  have htO := hT.1
  have htR := hT.2.1.1
  rw [List.length_map] at htR
  obtain ⟨fb, fht, ftm, fbi, t5, t6, t7, t8, tX⟩ := id hT.2.2.2.1
  have hen : (enB (ksB N.1)).length = (ksB N.1).length := enB_len _
  have hrx := hT.2.1
  obtain ⟨fB, gB, hfB, hgB, hxB⟩ := hrx.2.2.2
  have hg1 : gB k = nI (offL ((ksB N.1).map Prod.fst) k) := hxB.1 k (by rw [List.length_map]; omega)
  have hbx : blX (ksB N.1) := hI.1.2.2.2.2.2.1
  have hbl := (hbx k hk).f
  have hoo : offL ((ksB N.1).map Prod.fst) k + (bBy (ksB N.1) k).length ≤ 12391 := by have r := offL_mono ((ksB N.1).map Prod.fst) (ksB N.1).length (k + 1) (by omega); simp only [offL] at r; rw [rowL_bl] at r; have r2 := hrx.2.2.1; rw [List.length_map] at r2; omega
  have hB80 : fB (offL ((ksB N.1).map Prod.fst) k + 80) = lf (bBy (ksB N.1) k) 80 := by have q := hxB.2 k (by rw [List.length_map]; exact hk) 80; rw [rowL_bl] at q; exact q (by omega)
  have hb113 := hI.1.top.2.1
  refine hz_aloadn (pc := 0) 0 (hz_dec kX11_block 0 rfl) rfl ?_
  refine hz_iloadn (pc := 1) 1 (hz_dec kX11_block 1 rfl) rfl ?_
  refine hz_xV (pc := 2) (a := 8) (As := [.int (nI v)]) (st := []) (hz_dec kX11_block 2 rfl) co_X11_162 im_X11_nodeOf se_X11_nodeOf rfl hH (by omega) (by omega) (c_nOf hz63 hH hnn hNs (b := v) hv) rfl (by decide) ⟨Nat.le_refl _, Nat.le_refl _⟩ (Nat.le_of_ble_eq_true rfl) rfl ?_
  refine hz_astore (pc := 5) (i := 4) (lo2 := [(4, .ref (63 + 34 * v)), (0, .ref 8), (1, .int (nI v)), (2, .int (nI k)), (3, .int (nI 1))]) (hz_dec kX11_block 3 rfl) (by decide) rfl ?_
  refine hz_aload (pc := 7) 0 (hz_dec kX11_block 4 rfl) rfl ?_
  refine hz_ifnull (pc := 9) (hz_dec kX11_block 5 rfl) ?_
  refine hz_iloadn (pc := 12) 4 (hz_dec kX11_block 6 rfl) rfl ?_
  refine hz_z_lt (pc := 13) (tgt := 22) (hz_dec kX11_block 7 rfl) (by decide) (by omega) ?_
  refine hz_iloadn (pc := 16) 4 (hz_dec kX11_block 8 rfl) rfl ?_
  refine hz_bipush (pc := 17) (v := nI 6) (hz_dec kX11_block 9 rfl) (by decide) ?_
  refine hz_n_le (pc := 19) (tgt := 24) (hz_dec kX11_block 10 rfl) (by decide) (by omega) (by omega) (fun hq2 => ?_) (fun hq2 => ?_)
  · skip
    refine hz_aload (pc := 24) 0 (hz_dec kX11_block 13 rfl) rfl ?_
    refine hz_get (pc := 26) (hz_dec kX11_block 14 rfl) fo_X11_166 hn (by omega) (by omega) rfl ?_
    refine hz_z_ne (pc := 29) (tgt := 35) (hz_dec kX11_block 15 rfl) (by decide) (by omega) (fun hq3 => ?_) (fun hq3 => ?_)
    · skip
      refine hz_aload (pc := 35) 0 (hz_dec kX11_block 18 rfl) rfl ?_
      refine hz_get (pc := 37) (hz_dec kX11_block 19 rfl) fo_X11_104 hn (by omega) (by omega) rfl ?_
      refine hz_astore (pc := 40) (i := 5) (lo2 := [(5, .ref (63 + 34 * v + 21)), (4, .ref (63 + 34 * v)), (0, .ref 8), (1, .int (nI v)), (2, .int (nI k)), (3, .int (nI 1))]) (hz_dec kX11_block 20 rfl) (by decide) rfl ?_
      refine hz_iloadn (pc := 42) 4 (hz_dec kX11_block 21 rfl) rfl ?_
      refine hz_z_lt (pc := 43) (tgt := 58) (hz_dec kX11_block 22 rfl) (by decide) (by omega) ?_
      refine hz_iloadn (pc := 46) 4 (hz_dec kX11_block 23 rfl) rfl ?_
      refine hz_aload (pc := 47) 0 (hz_dec kX11_block 24 rfl) rfl ?_
      refine hz_get (pc := 49) (hz_dec kX11_block 25 rfl) fo_X11_217 htO (by omega) (by omega) rfl ?_
      refine hz_get (pc := 52) (hz_dec kX11_block 26 rfl) fo_X11_220 htR (by omega) (by omega) rfl ?_
      refine hz_n_lt (pc := 55) (tgt := 60) (hz_dec kX11_block 27 rfl) (by decide) (by omega) (by omega) (fun h3 => ?_) (fun h3 => ?_)
      · skip
        refine hz_iloadn (pc := 60) 5 (hz_dec kX11_block 30 rfl) rfl ?_
        refine hz_swIn (pc := 61) (off := 56) (tgt := 117) (hz_dec kX11_block 31 rfl) (by decide) (by decide) rfl (by decide) ?_
        refine hz_aload (pc := 117) 0 (hz_dec kX11_block 41 rfl) rfl ?_
        refine hz_get (pc := 119) (hz_dec kX11_block 42 rfl) fo_X11_241 htO (by omega) (by omega) rfl ?_
        refine hz_iloadn (pc := 122) 4 (hz_dec kX11_block 43 rfl) rfl ?_
        refine hz_iald (pc := 123) (j := k) (hz_dec kX11_block 44 rfl) t6 (by omega) (by omega) rfl (by omega) (by decide) ?_
        refine hz_eqi (pc := 124) (tX k (by omega)).2.1 ?_
        exact hz_iret (pc := 124) (hz_dec kX11_block 45 rfl) rfl (hcP.no hR _)
      · skip
        exact absurd hk (by omega)
    · skip
      exact absurd hq3 (by decide)
  · skip
    exact absurd hq2 (by decide)
set_option maxHeartbeats 4000000 in
set_option maxRecDepth 100000 in
theorem c_rblock1 {κ : hz_C} {z B : Nat} {M : hz_M} {H : ho_H} (hnn : (hoN H).length ≤ 6) (hT4 : (hoT H).length ≤ 4000) (hR : hmR M z B H) {v : Nat} (hv : v < (hoN H).length) {N : nd_N} (hN : ndL (hoN H) v = N) {k : Nat} (hk : k < (ksB N.1).length) (hup : N.2.1 = true) (hI : ksI N.1) : hz_Mt κ xX12_block 3 0 0 [.ref B, .int (nI v), .int (nI k), .int (nI 1)] z M (hmP M z B (.int (nI (eH (enB (ksB N.1)) k))) H) := by
  refine hz_ent (lo := [(0, .ref B), (1, .int (nI v)), (2, .int (nI k)), (3, .int (nI 1))]) (by decide) (Nat.le_of_ble_eq_true rfl) rfl ?_
  obtain ⟨hk0_, hE0, ⟨m1, m2, m3⟩, hNd, a5, a6, a7, a8⟩ := id hR
  obtain ⟨⟨fs, hO, hF⟩, -, -, h8, hz⟩ := id hk0_
  obtain ⟨x1, x3, x4, x5, x6, x7, x8⟩ := id m3
  have eSt : stI (ndL (hoN H) v).2.1 = nI 0 := by rw [hN, hup]; rfl
  refine hz_aloadn (pc := 0) 0 (hz_dec kX12_block 0 rfl) rfl ?_
  refine hz_iconst (pc := 1) (v := nI 0) (hz_dec kX12_block 1 rfl) (by decide) ?_
  refine hz_puti (pc := 2) (hz_dec kX12_block 2 rfl) fo_X12_302 ft_X12_0 hO h8 (by omega) (by rw [hF.1]; decide) ?_
  have hf1 : mfr B [0, 89] [] M (va_up M B (.inr (12, (List.set fs 0 (.int (nI 0)))))) := (mfr.rf ⟨fs, hO, hF⟩).upO (k := 0) hO hF rfl rfl
  have hR1 : hmR (va_up M B (.inr (12, (List.set fs 0 (.int (nI 0)))))) z B H := hR.m0 hf1 hE0.upO ((fdB_of (va_up_self _ _ _) 89).trans ((List.getElem?_set_ne (by decide)).trans ((fdB_of hO 89).symm.trans x8)))
  generalize (va_up M B (.inr (12, (List.set fs 0 (.int (nI 0)))))) = M1 at *
  obtain ⟨hk1, hE1, ⟨n1, d1, q1⟩, hNd1, a51, a61, a71, a81⟩ := id hR1
  obtain ⟨⟨fs1, hO1, hF1⟩, -, -, -, -⟩ := id hk1
  have h0 : mdN M1 B v N := by have q := hNd1 v hv; rw [hN] at q; exact q
  have hv6 : v < 6 := by omega
  have h01 : mnS M1 B v 1 N.1 (pvI (ksF N.1)) (ksP N.1) := by have q := h0.1; rw [hup] at q; exact q
  have h02 : orX (fA M1 B) v (mkO (ksL N.1)) := by have q := h0.2.1; rw [hup] at q; exact q
  obtain ⟨p1, p2, p3, p4, ⟨p5a, p5b, p5c⟩, p6, p7, p9⟩ := id h01
  have hbp := hI.1.p hI.2.1
  obtain ⟨b1, b2, b3, b4, b5, b6, b7, b8⟩ := id hbp
  refine hz_aloadn (pc := 5) 0 (hz_dec kX12_block 3 rfl) rfl ?_
  refine hz_iloadn (pc := 6) 1 (hz_dec kX12_block 4 rfl) rfl ?_
  refine hz_xV (pc := 7) (a := B) (As := [.int (nI v)]) (st := []) (hz_dec kX12_block 5 rfl) co_X12_692 im_X12_stateOf se_X12_stateOf rfl hO1 h8 (by omega) (c_st hnn hR1 hv) rfl (by decide) ⟨Nat.le_refl _, Nat.le_refl _⟩ (Nat.le_of_ble_eq_true rfl) rfl ?_
  refine hz_eqi (pc := 10) eSt ?_
  refine hz_istore (pc := 10) (i := 4) (lo2 := [(4, .int (nI 0)), (0, .ref B), (1, .int (nI v)), (2, .int (nI k)), (3, .int (nI 1))]) (hz_dec kX12_block 6 rfl) (by decide) rfl ?_
  refine hz_iload (pc := 12) 0 (hz_dec kX12_block 7 rfl) rfl ?_
  refine hz_iconst (pc := 14) (v := (-1)) (hz_dec kX12_block 8 rfl) (by decide) ?_
  refine hz_icmp_eq (pc := 15) (tgt := 28) (hz_dec kX12_block 9 rfl) (by decide) (fun hq1 => ?_) (fun hq1 => ?_)
  · skip
    exact absurd hq1 (by decide)
  · skip
    refine hz_iloadn (pc := 18) 4 (hz_dec kX12_block 10 rfl) rfl ?_
    refine hz_z_lt (pc := 19) (tgt := 28) (hz_dec kX12_block 11 rfl) (by decide) (by omega) ?_
    refine hz_iloadn (pc := 22) 4 (hz_dec kX12_block 12 rfl) rfl ?_
    refine hz_bipush (pc := 23) (v := nI 6) (hz_dec kX12_block 13 rfl) (by decide) ?_
    refine hz_n_le (pc := 25) (tgt := 30) (hz_dec kX12_block 14 rfl) (by decide) (by omega) (by omega) (fun hq3 => ?_) (fun hq3 => ?_)
    · skip
      refine hz_iload (pc := 30) 0 (hz_dec kX12_block 17 rfl) rfl ?_
      refine hz_bipush (pc := 32) (v := (-2)) (hz_dec kX12_block 18 rfl) (by decide) ?_
      refine hz_icmp_ne (pc := 34) (tgt := 40) (hz_dec kX12_block 19 rfl) (by decide) (fun hq4 => ?_) (fun hq4 => ?_)
      · skip
        refine hz_iloadn (pc := 40) 3 (hz_dec kX12_block 22 rfl) rfl ?_
        refine hz_z_lt (pc := 41) (tgt := 54) (hz_dec kX12_block 23 rfl) (by decide) (by omega) ?_
        refine hz_iloadn (pc := 44) 3 (hz_dec kX12_block 24 rfl) rfl ?_
        refine hz_aloadn (pc := 45) 1 (hz_dec kX12_block 25 rfl) rfl ?_
        refine hz_get (pc := 46) (v := .ref (B + 20)) (hz_dec kX12_block 26 rfl) fo_X12_71 hO1 h8 (by omega) (hF1.2 22 (by decide) (by decide)) ?_
        refine hz_iloadn (pc := 49) 2 (hz_dec kX12_block 27 rfl) rfl ?_
        refine hz_iald (pc := 50) (j := v) (hz_dec kX12_block 28 rfl) hE1.a20 (by omega) (by omega) rfl (by omega) (by decide) ?_
        refine hz_eqi (pc := 51) p5b.1 ?_
        refine hz_n_lt (pc := 51) (tgt := 56) (hz_dec kX12_block 29 rfl) (by decide) (by omega) (by omega) (fun h3 => ?_) (fun h3 => ?_)
        · skip
          refine hz_iloadn (pc := 56) 2 (hz_dec kX12_block 32 rfl) rfl ?_
          refine hz_iloadn (pc := 57) 3 (hz_dec kX12_block 33 rfl) rfl ?_
          refine hz_xS (pc := 58) (As := [.int (nI v), .int (nI k)]) (st := []) (hz_dec kX12_block 34 rfl) co_X12_419 sc_X12_at0 (c_at0 (v := v) (y := k)) rfl (by decide) ⟨Nat.le_refl _, Nat.le_refl _⟩ (Nat.le_of_ble_eq_true rfl) rfl ?_
          refine hz_istore (pc := 61) (i := 5) (lo2 := [(5, .int (nI (128 * v + k))), (4, .int (nI 0)), (0, .ref B), (1, .int (nI v)), (2, .int (nI k)), (3, .int (nI 1))]) (hz_dec kX12_block 35 rfl) (by decide) rfl ?_
          refine hz_iloadn (pc := 63) 5 (hz_dec kX12_block 36 rfl) rfl ?_
          refine hz_swIn (pc := 64) (off := 63) (tgt := 127) (hz_dec kX12_block 37 rfl) (by decide) (by decide) rfl (by decide) ?_
          refine hz_aloadn (pc := 127) 2 (hz_dec kX12_block 50 rfl) rfl ?_
          refine hz_get (pc := 128) (v := .ref (B + 27)) (hz_dec kX12_block 51 rfl) fo_X12_92 hO1 h8 (by omega) (hF1.2 29 (by decide) (by decide)) ?_
          refine hz_iload (pc := 131) 0 (hz_dec kX12_block 52 rfl) rfl ?_
          refine hz_iald (pc := 133) (j := 128 * v + k) (hz_dec kX12_block 53 rfl) hE1.a27 (by omega) (by omega) rfl (by omega) (by decide) ?_
          refine hz_eqi (pc := 134) ((p5a k (by omega)).1 hk).2.1 ?_
          exact hz_iret (pc := 134) (hz_dec kX12_block 54 rfl) rfl ⟨rfl, rfl, hf1.S rfl, hR1⟩
        · skip
          exact absurd hk (by omega)
      · skip
        exact absurd hq4 (by decide)
    · skip
      exact absurd hq3 (by decide)
set_option maxHeartbeats 4000000 in
set_option maxRecDepth 100000 in
theorem c_block2 {κ : hz_C} {z : Nat} {M : hz_M} {H : ho_H} (hz : 63 + 34 * (hoN H).length ≤ z) (hnn : (hoN H).length ≤ 6) (hT4 : (hoT H).length ≤ 4000) {ll : Nat} {fr kn : Int32} (hR : hcR M z H ll fr kn) {v : Nat} (hv : v < (hoN H).length) {N : nd_N} (hN : ndL (hoN H) v = N) {k : Nat} (hk : k < (ksB N.1).length) (hup : N.2.1 = true) (hI : ksI N.1) : hz_Mt κ xX11_block 2 0 0 [.ref 8, .int (nI v), .int (nI k), .int (nI 2)] z M (hcP M z H (.int (eT (enB (ksB N.1)) k)) H) := by
  refine hz_ent (lo := [(0, .ref 8), (1, .int (nI v)), (2, .int (nI k)), (3, .int (nI 2))]) (by decide) (Nat.le_of_ble_eq_true rfl) rfl ?_
  have hH := hR.1
  have hNs := hR.2.1
  obtain ⟨hO, hQ, hD⟩ := id hR.2.2.2.2.1
  obtain ⟨g53, h53⟩ := hR.2.2.2.2.2.1
  have hJ := hR.2.2.2.1
  obtain ⟨g56, h56, hT56⟩ := hR.2.2.2.2.2.2.2.2.2.1
  have hdf := hR.2.2.2.2.2.2.2.2.2.2
  have hck : ck_k M z := hJ.2.2.2.2.2.2.2.1
  have hcs : ck_s M := hJ.2.2.2.2.2.2.2.2.1
  have hz63 : 63 ≤ z := by omega
  have hK := hR.2.2.1 v hv
  rw [hN] at hK
  obtain ⟨hn, ⟨gd, hgd, hgD⟩, hT, hC, hP, hL⟩ := id hK
  have hn : M (63 + 34 * v) = ndO (63 + 34 * v) (nI v) (nI 1) (nI (ksN N.1)) (pvI (ksF N.1)) N.2.2.1 N.2.2.2 := by rw [hup] at hn; exact hn
  have htO := hT.1
  have htR := hT.2.1.1
  rw [List.length_map] at htR
  obtain ⟨fb, fht, ftm, fbi, t5, t6, t7, t8, tX⟩ := id hT.2.2.2.1
  have hen : (enB (ksB N.1)).length = (ksB N.1).length := enB_len _
  have hrx := hT.2.1
  obtain ⟨fB, gB, hfB, hgB, hxB⟩ := hrx.2.2.2
  have hg1 : gB k = nI (offL ((ksB N.1).map Prod.fst) k) := hxB.1 k (by rw [List.length_map]; omega)
  have hbx : blX (ksB N.1) := hI.1.2.2.2.2.2.1
  have hbl := (hbx k hk).f
  have hoo : offL ((ksB N.1).map Prod.fst) k + (bBy (ksB N.1) k).length ≤ 12391 := by have r := offL_mono ((ksB N.1).map Prod.fst) (ksB N.1).length (k + 1) (by omega); simp only [offL] at r; rw [rowL_bl] at r; have r2 := hrx.2.2.1; rw [List.length_map] at r2; omega
  have hB80 : fB (offL ((ksB N.1).map Prod.fst) k + 80) = lf (bBy (ksB N.1) k) 80 := by have q := hxB.2 k (by rw [List.length_map]; exact hk) 80; rw [rowL_bl] at q; exact q (by omega)
  have hb113 := hI.1.top.2.1
  refine hz_aloadn (pc := 0) 0 (hz_dec kX11_block 0 rfl) rfl ?_
  refine hz_iloadn (pc := 1) 1 (hz_dec kX11_block 1 rfl) rfl ?_
  refine hz_xV (pc := 2) (a := 8) (As := [.int (nI v)]) (st := []) (hz_dec kX11_block 2 rfl) co_X11_162 im_X11_nodeOf se_X11_nodeOf rfl hH (by omega) (by omega) (c_nOf hz63 hH hnn hNs (b := v) hv) rfl (by decide) ⟨Nat.le_refl _, Nat.le_refl _⟩ (Nat.le_of_ble_eq_true rfl) rfl ?_
  refine hz_astore (pc := 5) (i := 4) (lo2 := [(4, .ref (63 + 34 * v)), (0, .ref 8), (1, .int (nI v)), (2, .int (nI k)), (3, .int (nI 2))]) (hz_dec kX11_block 3 rfl) (by decide) rfl ?_
  refine hz_aload (pc := 7) 0 (hz_dec kX11_block 4 rfl) rfl ?_
  refine hz_ifnull (pc := 9) (hz_dec kX11_block 5 rfl) ?_
  refine hz_iloadn (pc := 12) 4 (hz_dec kX11_block 6 rfl) rfl ?_
  refine hz_z_lt (pc := 13) (tgt := 22) (hz_dec kX11_block 7 rfl) (by decide) (by omega) ?_
  refine hz_iloadn (pc := 16) 4 (hz_dec kX11_block 8 rfl) rfl ?_
  refine hz_bipush (pc := 17) (v := nI 6) (hz_dec kX11_block 9 rfl) (by decide) ?_
  refine hz_n_le (pc := 19) (tgt := 24) (hz_dec kX11_block 10 rfl) (by decide) (by omega) (by omega) (fun hq2 => ?_) (fun hq2 => ?_)
  · skip
    refine hz_aload (pc := 24) 0 (hz_dec kX11_block 13 rfl) rfl ?_
    refine hz_get (pc := 26) (hz_dec kX11_block 14 rfl) fo_X11_166 hn (by omega) (by omega) rfl ?_
    refine hz_z_ne (pc := 29) (tgt := 35) (hz_dec kX11_block 15 rfl) (by decide) (by omega) (fun hq3 => ?_) (fun hq3 => ?_)
    · skip
      refine hz_aload (pc := 35) 0 (hz_dec kX11_block 18 rfl) rfl ?_
      refine hz_get (pc := 37) (hz_dec kX11_block 19 rfl) fo_X11_104 hn (by omega) (by omega) rfl ?_
      refine hz_astore (pc := 40) (i := 5) (lo2 := [(5, .ref (63 + 34 * v + 21)), (4, .ref (63 + 34 * v)), (0, .ref 8), (1, .int (nI v)), (2, .int (nI k)), (3, .int (nI 2))]) (hz_dec kX11_block 20 rfl) (by decide) rfl ?_
      refine hz_iloadn (pc := 42) 4 (hz_dec kX11_block 21 rfl) rfl ?_
      refine hz_z_lt (pc := 43) (tgt := 58) (hz_dec kX11_block 22 rfl) (by decide) (by omega) ?_
      refine hz_iloadn (pc := 46) 4 (hz_dec kX11_block 23 rfl) rfl ?_
      refine hz_aload (pc := 47) 0 (hz_dec kX11_block 24 rfl) rfl ?_
      refine hz_get (pc := 49) (hz_dec kX11_block 25 rfl) fo_X11_217 htO (by omega) (by omega) rfl ?_
      refine hz_get (pc := 52) (hz_dec kX11_block 26 rfl) fo_X11_220 htR (by omega) (by omega) rfl ?_
      refine hz_n_lt (pc := 55) (tgt := 60) (hz_dec kX11_block 27 rfl) (by decide) (by omega) (by omega) (fun h3 => ?_) (fun h3 => ?_)
      · skip
        refine hz_iloadn (pc := 60) 5 (hz_dec kX11_block 30 rfl) rfl ?_
        refine hz_swIn (pc := 61) (off := 64) (tgt := 125) (hz_dec kX11_block 31 rfl) (by decide) (by decide) rfl (by decide) ?_
        refine hz_aload (pc := 125) 0 (hz_dec kX11_block 46 rfl) rfl ?_
        refine hz_get (pc := 127) (hz_dec kX11_block 47 rfl) fo_X11_389 htO (by omega) (by omega) rfl ?_
        refine hz_iloadn (pc := 130) 4 (hz_dec kX11_block 48 rfl) rfl ?_
        refine hz_iald (pc := 131) (j := k) (hz_dec kX11_block 49 rfl) t7 (by omega) (by omega) rfl (by omega) (by decide) ?_
        refine hz_eqi (pc := 132) (tX k (by omega)).2.2.1 ?_
        exact hz_iret (pc := 132) (hz_dec kX11_block 50 rfl) rfl (hcP.no hR _)
      · skip
        exact absurd hk (by omega)
    · skip
      exact absurd hq3 (by decide)
  · skip
    exact absurd hq2 (by decide)
set_option maxHeartbeats 4000000 in
set_option maxRecDepth 100000 in
theorem c_rblock2 {κ : hz_C} {z B : Nat} {M : hz_M} {H : ho_H} (hnn : (hoN H).length ≤ 6) (hT4 : (hoT H).length ≤ 4000) (hR : hmR M z B H) {v : Nat} (hv : v < (hoN H).length) {N : nd_N} (hN : ndL (hoN H) v = N) {k : Nat} (hk : k < (ksB N.1).length) (hup : N.2.1 = true) (hI : ksI N.1) : hz_Mt κ xX12_block 3 0 0 [.ref B, .int (nI v), .int (nI k), .int (nI 2)] z M (hmP M z B (.int (eT (enB (ksB N.1)) k)) H) := by
  refine hz_ent (lo := [(0, .ref B), (1, .int (nI v)), (2, .int (nI k)), (3, .int (nI 2))]) (by decide) (Nat.le_of_ble_eq_true rfl) rfl ?_
  obtain ⟨hk0_, hE0, ⟨m1, m2, m3⟩, hNd, a5, a6, a7, a8⟩ := id hR
  obtain ⟨⟨fs, hO, hF⟩, -, -, h8, hz⟩ := id hk0_
  obtain ⟨x1, x3, x4, x5, x6, x7, x8⟩ := id m3
  have eSt : stI (ndL (hoN H) v).2.1 = nI 0 := by rw [hN, hup]; rfl
  refine hz_aloadn (pc := 0) 0 (hz_dec kX12_block 0 rfl) rfl ?_
  refine hz_iconst (pc := 1) (v := nI 0) (hz_dec kX12_block 1 rfl) (by decide) ?_
  refine hz_puti (pc := 2) (hz_dec kX12_block 2 rfl) fo_X12_302 ft_X12_0 hO h8 (by omega) (by rw [hF.1]; decide) ?_
  have hf1 : mfr B [0, 89] [] M (va_up M B (.inr (12, (List.set fs 0 (.int (nI 0)))))) := (mfr.rf ⟨fs, hO, hF⟩).upO (k := 0) hO hF rfl rfl
  have hR1 : hmR (va_up M B (.inr (12, (List.set fs 0 (.int (nI 0)))))) z B H := hR.m0 hf1 hE0.upO ((fdB_of (va_up_self _ _ _) 89).trans ((List.getElem?_set_ne (by decide)).trans ((fdB_of hO 89).symm.trans x8)))
  generalize (va_up M B (.inr (12, (List.set fs 0 (.int (nI 0)))))) = M1 at *
  obtain ⟨hk1, hE1, ⟨n1, d1, q1⟩, hNd1, a51, a61, a71, a81⟩ := id hR1
  obtain ⟨⟨fs1, hO1, hF1⟩, -, -, -, -⟩ := id hk1
  have h0 : mdN M1 B v N := by have q := hNd1 v hv; rw [hN] at q; exact q
  have hv6 : v < 6 := by omega
  have h01 : mnS M1 B v 1 N.1 (pvI (ksF N.1)) (ksP N.1) := by have q := h0.1; rw [hup] at q; exact q
  have h02 : orX (fA M1 B) v (mkO (ksL N.1)) := by have q := h0.2.1; rw [hup] at q; exact q
  obtain ⟨p1, p2, p3, p4, ⟨p5a, p5b, p5c⟩, p6, p7, p9⟩ := id h01
  have hbp := hI.1.p hI.2.1
  obtain ⟨b1, b2, b3, b4, b5, b6, b7, b8⟩ := id hbp
  refine hz_aloadn (pc := 5) 0 (hz_dec kX12_block 3 rfl) rfl ?_
  refine hz_iloadn (pc := 6) 1 (hz_dec kX12_block 4 rfl) rfl ?_
  refine hz_xV (pc := 7) (a := B) (As := [.int (nI v)]) (st := []) (hz_dec kX12_block 5 rfl) co_X12_692 im_X12_stateOf se_X12_stateOf rfl hO1 h8 (by omega) (c_st hnn hR1 hv) rfl (by decide) ⟨Nat.le_refl _, Nat.le_refl _⟩ (Nat.le_of_ble_eq_true rfl) rfl ?_
  refine hz_eqi (pc := 10) eSt ?_
  refine hz_istore (pc := 10) (i := 4) (lo2 := [(4, .int (nI 0)), (0, .ref B), (1, .int (nI v)), (2, .int (nI k)), (3, .int (nI 2))]) (hz_dec kX12_block 6 rfl) (by decide) rfl ?_
  refine hz_iload (pc := 12) 0 (hz_dec kX12_block 7 rfl) rfl ?_
  refine hz_iconst (pc := 14) (v := (-1)) (hz_dec kX12_block 8 rfl) (by decide) ?_
  refine hz_icmp_eq (pc := 15) (tgt := 28) (hz_dec kX12_block 9 rfl) (by decide) (fun hq1 => ?_) (fun hq1 => ?_)
  · skip
    exact absurd hq1 (by decide)
  · skip
    refine hz_iloadn (pc := 18) 4 (hz_dec kX12_block 10 rfl) rfl ?_
    refine hz_z_lt (pc := 19) (tgt := 28) (hz_dec kX12_block 11 rfl) (by decide) (by omega) ?_
    refine hz_iloadn (pc := 22) 4 (hz_dec kX12_block 12 rfl) rfl ?_
    refine hz_bipush (pc := 23) (v := nI 6) (hz_dec kX12_block 13 rfl) (by decide) ?_
    refine hz_n_le (pc := 25) (tgt := 30) (hz_dec kX12_block 14 rfl) (by decide) (by omega) (by omega) (fun hq3 => ?_) (fun hq3 => ?_)
    · skip
      refine hz_iload (pc := 30) 0 (hz_dec kX12_block 17 rfl) rfl ?_
      refine hz_bipush (pc := 32) (v := (-2)) (hz_dec kX12_block 18 rfl) (by decide) ?_
      refine hz_icmp_ne (pc := 34) (tgt := 40) (hz_dec kX12_block 19 rfl) (by decide) (fun hq4 => ?_) (fun hq4 => ?_)
      · skip
        refine hz_iloadn (pc := 40) 3 (hz_dec kX12_block 22 rfl) rfl ?_
        refine hz_z_lt (pc := 41) (tgt := 54) (hz_dec kX12_block 23 rfl) (by decide) (by omega) ?_
        refine hz_iloadn (pc := 44) 3 (hz_dec kX12_block 24 rfl) rfl ?_
        refine hz_aloadn (pc := 45) 1 (hz_dec kX12_block 25 rfl) rfl ?_
        refine hz_get (pc := 46) (v := .ref (B + 20)) (hz_dec kX12_block 26 rfl) fo_X12_71 hO1 h8 (by omega) (hF1.2 22 (by decide) (by decide)) ?_
        refine hz_iloadn (pc := 49) 2 (hz_dec kX12_block 27 rfl) rfl ?_
        refine hz_iald (pc := 50) (j := v) (hz_dec kX12_block 28 rfl) hE1.a20 (by omega) (by omega) rfl (by omega) (by decide) ?_
        refine hz_eqi (pc := 51) p5b.1 ?_
        refine hz_n_lt (pc := 51) (tgt := 56) (hz_dec kX12_block 29 rfl) (by decide) (by omega) (by omega) (fun h3 => ?_) (fun h3 => ?_)
        · skip
          refine hz_iloadn (pc := 56) 2 (hz_dec kX12_block 32 rfl) rfl ?_
          refine hz_iloadn (pc := 57) 3 (hz_dec kX12_block 33 rfl) rfl ?_
          refine hz_xS (pc := 58) (As := [.int (nI v), .int (nI k)]) (st := []) (hz_dec kX12_block 34 rfl) co_X12_419 sc_X12_at0 (c_at0 (v := v) (y := k)) rfl (by decide) ⟨Nat.le_refl _, Nat.le_refl _⟩ (Nat.le_of_ble_eq_true rfl) rfl ?_
          refine hz_istore (pc := 61) (i := 5) (lo2 := [(5, .int (nI (128 * v + k))), (4, .int (nI 0)), (0, .ref B), (1, .int (nI v)), (2, .int (nI k)), (3, .int (nI 2))]) (hz_dec kX12_block 35 rfl) (by decide) rfl ?_
          refine hz_iloadn (pc := 63) 5 (hz_dec kX12_block 36 rfl) rfl ?_
          refine hz_swIn (pc := 64) (off := 71) (tgt := 135) (hz_dec kX12_block 37 rfl) (by decide) (by decide) rfl (by decide) ?_
          refine hz_aloadn (pc := 135) 2 (hz_dec kX12_block 55 rfl) rfl ?_
          refine hz_get (pc := 136) (v := .ref (B + 28)) (hz_dec kX12_block 56 rfl) fo_X12_95 hO1 h8 (by omega) (hF1.2 30 (by decide) (by decide)) ?_
          refine hz_iload (pc := 139) 0 (hz_dec kX12_block 57 rfl) rfl ?_
          refine hz_iald (pc := 141) (j := 128 * v + k) (hz_dec kX12_block 58 rfl) hE1.a28 (by omega) (by omega) rfl (by omega) (by decide) ?_
          refine hz_eqi (pc := 142) ((p5a k (by omega)).1 hk).2.2.1 ?_
          exact hz_iret (pc := 142) (hz_dec kX12_block 59 rfl) rfl ⟨rfl, rfl, hf1.S rfl, hR1⟩
        · skip
          exact absurd hk (by omega)
      · skip
        exact absurd hq4 (by decide)
    · skip
      exact absurd hq3 (by decide)
set_option maxHeartbeats 4000000 in
set_option maxRecDepth 100000 in
theorem c_block3 {κ : hz_C} {z : Nat} {M : hz_M} {H : ho_H} (hz : 63 + 34 * (hoN H).length ≤ z) (hnn : (hoN H).length ≤ 6) (hT4 : (hoT H).length ≤ 4000) {ll : Nat} {fr kn : Int32} (hR : hcR M z H ll fr kn) {v : Nat} (hv : v < (hoN H).length) {N : nd_N} (hN : ndL (hoN H) v = N) {k : Nat} (hk : k < (ksB N.1).length) (hup : N.2.1 = true) (hI : ksI N.1) : hz_Mt κ xX11_block 2 0 0 [.ref 8, .int (nI v), .int (nI k), .int (nI 3)] z M (hcP M z H (.int (eB (enB (ksB N.1)) k)) H) := by
  refine hz_ent (lo := [(0, .ref 8), (1, .int (nI v)), (2, .int (nI k)), (3, .int (nI 3))]) (by decide) (Nat.le_of_ble_eq_true rfl) rfl ?_
  have hH := hR.1
  have hNs := hR.2.1
  obtain ⟨hO, hQ, hD⟩ := id hR.2.2.2.2.1
  obtain ⟨g53, h53⟩ := hR.2.2.2.2.2.1
  have hJ := hR.2.2.2.1
  obtain ⟨g56, h56, hT56⟩ := hR.2.2.2.2.2.2.2.2.2.1
  have hdf := hR.2.2.2.2.2.2.2.2.2.2
  have hck : ck_k M z := hJ.2.2.2.2.2.2.2.1
  have hcs : ck_s M := hJ.2.2.2.2.2.2.2.2.1
  have hz63 : 63 ≤ z := by omega
  have hK := hR.2.2.1 v hv
  rw [hN] at hK
  obtain ⟨hn, ⟨gd, hgd, hgD⟩, hT, hC, hP, hL⟩ := id hK
  have hn : M (63 + 34 * v) = ndO (63 + 34 * v) (nI v) (nI 1) (nI (ksN N.1)) (pvI (ksF N.1)) N.2.2.1 N.2.2.2 := by rw [hup] at hn; exact hn
  have htO := hT.1
  have htR := hT.2.1.1
  rw [List.length_map] at htR
  obtain ⟨fb, fht, ftm, fbi, t5, t6, t7, t8, tX⟩ := id hT.2.2.2.1
  have hen : (enB (ksB N.1)).length = (ksB N.1).length := enB_len _
  have hrx := hT.2.1
  obtain ⟨fB, gB, hfB, hgB, hxB⟩ := hrx.2.2.2
  have hg1 : gB k = nI (offL ((ksB N.1).map Prod.fst) k) := hxB.1 k (by rw [List.length_map]; omega)
  have hbx : blX (ksB N.1) := hI.1.2.2.2.2.2.1
  have hbl := (hbx k hk).f
  have hoo : offL ((ksB N.1).map Prod.fst) k + (bBy (ksB N.1) k).length ≤ 12391 := by have r := offL_mono ((ksB N.1).map Prod.fst) (ksB N.1).length (k + 1) (by omega); simp only [offL] at r; rw [rowL_bl] at r; have r2 := hrx.2.2.1; rw [List.length_map] at r2; omega
  have hB80 : fB (offL ((ksB N.1).map Prod.fst) k + 80) = lf (bBy (ksB N.1) k) 80 := by have q := hxB.2 k (by rw [List.length_map]; exact hk) 80; rw [rowL_bl] at q; exact q (by omega)
  have hb113 := hI.1.top.2.1
  refine hz_aloadn (pc := 0) 0 (hz_dec kX11_block 0 rfl) rfl ?_
  refine hz_iloadn (pc := 1) 1 (hz_dec kX11_block 1 rfl) rfl ?_
  refine hz_xV (pc := 2) (a := 8) (As := [.int (nI v)]) (st := []) (hz_dec kX11_block 2 rfl) co_X11_162 im_X11_nodeOf se_X11_nodeOf rfl hH (by omega) (by omega) (c_nOf hz63 hH hnn hNs (b := v) hv) rfl (by decide) ⟨Nat.le_refl _, Nat.le_refl _⟩ (Nat.le_of_ble_eq_true rfl) rfl ?_
  refine hz_astore (pc := 5) (i := 4) (lo2 := [(4, .ref (63 + 34 * v)), (0, .ref 8), (1, .int (nI v)), (2, .int (nI k)), (3, .int (nI 3))]) (hz_dec kX11_block 3 rfl) (by decide) rfl ?_
  refine hz_aload (pc := 7) 0 (hz_dec kX11_block 4 rfl) rfl ?_
  refine hz_ifnull (pc := 9) (hz_dec kX11_block 5 rfl) ?_
  refine hz_iloadn (pc := 12) 4 (hz_dec kX11_block 6 rfl) rfl ?_
  refine hz_z_lt (pc := 13) (tgt := 22) (hz_dec kX11_block 7 rfl) (by decide) (by omega) ?_
  refine hz_iloadn (pc := 16) 4 (hz_dec kX11_block 8 rfl) rfl ?_
  refine hz_bipush (pc := 17) (v := nI 6) (hz_dec kX11_block 9 rfl) (by decide) ?_
  refine hz_n_le (pc := 19) (tgt := 24) (hz_dec kX11_block 10 rfl) (by decide) (by omega) (by omega) (fun hq2 => ?_) (fun hq2 => ?_)
  · skip
    refine hz_aload (pc := 24) 0 (hz_dec kX11_block 13 rfl) rfl ?_
    refine hz_get (pc := 26) (hz_dec kX11_block 14 rfl) fo_X11_166 hn (by omega) (by omega) rfl ?_
    refine hz_z_ne (pc := 29) (tgt := 35) (hz_dec kX11_block 15 rfl) (by decide) (by omega) (fun hq3 => ?_) (fun hq3 => ?_)
    · skip
      refine hz_aload (pc := 35) 0 (hz_dec kX11_block 18 rfl) rfl ?_
      refine hz_get (pc := 37) (hz_dec kX11_block 19 rfl) fo_X11_104 hn (by omega) (by omega) rfl ?_
      refine hz_astore (pc := 40) (i := 5) (lo2 := [(5, .ref (63 + 34 * v + 21)), (4, .ref (63 + 34 * v)), (0, .ref 8), (1, .int (nI v)), (2, .int (nI k)), (3, .int (nI 3))]) (hz_dec kX11_block 20 rfl) (by decide) rfl ?_
      refine hz_iloadn (pc := 42) 4 (hz_dec kX11_block 21 rfl) rfl ?_
      refine hz_z_lt (pc := 43) (tgt := 58) (hz_dec kX11_block 22 rfl) (by decide) (by omega) ?_
      refine hz_iloadn (pc := 46) 4 (hz_dec kX11_block 23 rfl) rfl ?_
      refine hz_aload (pc := 47) 0 (hz_dec kX11_block 24 rfl) rfl ?_
      refine hz_get (pc := 49) (hz_dec kX11_block 25 rfl) fo_X11_217 htO (by omega) (by omega) rfl ?_
      refine hz_get (pc := 52) (hz_dec kX11_block 26 rfl) fo_X11_220 htR (by omega) (by omega) rfl ?_
      refine hz_n_lt (pc := 55) (tgt := 60) (hz_dec kX11_block 27 rfl) (by decide) (by omega) (by omega) (fun h3 => ?_) (fun h3 => ?_)
      · skip
        refine hz_iloadn (pc := 60) 5 (hz_dec kX11_block 30 rfl) rfl ?_
        refine hz_swIn (pc := 61) (off := 72) (tgt := 133) (hz_dec kX11_block 31 rfl) (by decide) (by decide) rfl (by decide) ?_
        refine hz_aload (pc := 133) 0 (hz_dec kX11_block 51 rfl) rfl ?_
        refine hz_get (pc := 135) (hz_dec kX11_block 52 rfl) fo_X11_392 htO (by omega) (by omega) rfl ?_
        refine hz_iloadn (pc := 138) 4 (hz_dec kX11_block 53 rfl) rfl ?_
        refine hz_iald (pc := 139) (j := k) (hz_dec kX11_block 54 rfl) t8 (by omega) (by omega) rfl (by omega) (by decide) ?_
        refine hz_eqi (pc := 140) (tX k (by omega)).2.2.2 ?_
        exact hz_iret (pc := 140) (hz_dec kX11_block 55 rfl) rfl (hcP.no hR _)
      · skip
        exact absurd hk (by omega)
    · skip
      exact absurd hq3 (by decide)
  · skip
    exact absurd hq2 (by decide)
set_option maxHeartbeats 4000000 in
set_option maxRecDepth 100000 in
theorem c_rblock3 {κ : hz_C} {z B : Nat} {M : hz_M} {H : ho_H} (hnn : (hoN H).length ≤ 6) (hT4 : (hoT H).length ≤ 4000) (hR : hmR M z B H) {v : Nat} (hv : v < (hoN H).length) {N : nd_N} (hN : ndL (hoN H) v = N) {k : Nat} (hk : k < (ksB N.1).length) (hup : N.2.1 = true) (hI : ksI N.1) : hz_Mt κ xX12_block 3 0 0 [.ref B, .int (nI v), .int (nI k), .int (nI 3)] z M (hmP M z B (.int (eB (enB (ksB N.1)) k)) H) := by
  refine hz_ent (lo := [(0, .ref B), (1, .int (nI v)), (2, .int (nI k)), (3, .int (nI 3))]) (by decide) (Nat.le_of_ble_eq_true rfl) rfl ?_
  obtain ⟨hk0_, hE0, ⟨m1, m2, m3⟩, hNd, a5, a6, a7, a8⟩ := id hR
  obtain ⟨⟨fs, hO, hF⟩, -, -, h8, hz⟩ := id hk0_
  obtain ⟨x1, x3, x4, x5, x6, x7, x8⟩ := id m3
  have eSt : stI (ndL (hoN H) v).2.1 = nI 0 := by rw [hN, hup]; rfl
  refine hz_aloadn (pc := 0) 0 (hz_dec kX12_block 0 rfl) rfl ?_
  refine hz_iconst (pc := 1) (v := nI 0) (hz_dec kX12_block 1 rfl) (by decide) ?_
  refine hz_puti (pc := 2) (hz_dec kX12_block 2 rfl) fo_X12_302 ft_X12_0 hO h8 (by omega) (by rw [hF.1]; decide) ?_
  have hf1 : mfr B [0, 89] [] M (va_up M B (.inr (12, (List.set fs 0 (.int (nI 0)))))) := (mfr.rf ⟨fs, hO, hF⟩).upO (k := 0) hO hF rfl rfl
  have hR1 : hmR (va_up M B (.inr (12, (List.set fs 0 (.int (nI 0)))))) z B H := hR.m0 hf1 hE0.upO ((fdB_of (va_up_self _ _ _) 89).trans ((List.getElem?_set_ne (by decide)).trans ((fdB_of hO 89).symm.trans x8)))
  generalize (va_up M B (.inr (12, (List.set fs 0 (.int (nI 0)))))) = M1 at *
  obtain ⟨hk1, hE1, ⟨n1, d1, q1⟩, hNd1, a51, a61, a71, a81⟩ := id hR1
  obtain ⟨⟨fs1, hO1, hF1⟩, -, -, -, -⟩ := id hk1
  have h0 : mdN M1 B v N := by have q := hNd1 v hv; rw [hN] at q; exact q
  have hv6 : v < 6 := by omega
  have h01 : mnS M1 B v 1 N.1 (pvI (ksF N.1)) (ksP N.1) := by have q := h0.1; rw [hup] at q; exact q
  have h02 : orX (fA M1 B) v (mkO (ksL N.1)) := by have q := h0.2.1; rw [hup] at q; exact q
  obtain ⟨p1, p2, p3, p4, ⟨p5a, p5b, p5c⟩, p6, p7, p9⟩ := id h01
  have hbp := hI.1.p hI.2.1
  obtain ⟨b1, b2, b3, b4, b5, b6, b7, b8⟩ := id hbp
  refine hz_aloadn (pc := 5) 0 (hz_dec kX12_block 3 rfl) rfl ?_
  refine hz_iloadn (pc := 6) 1 (hz_dec kX12_block 4 rfl) rfl ?_
  refine hz_xV (pc := 7) (a := B) (As := [.int (nI v)]) (st := []) (hz_dec kX12_block 5 rfl) co_X12_692 im_X12_stateOf se_X12_stateOf rfl hO1 h8 (by omega) (c_st hnn hR1 hv) rfl (by decide) ⟨Nat.le_refl _, Nat.le_refl _⟩ (Nat.le_of_ble_eq_true rfl) rfl ?_
  refine hz_eqi (pc := 10) eSt ?_
  refine hz_istore (pc := 10) (i := 4) (lo2 := [(4, .int (nI 0)), (0, .ref B), (1, .int (nI v)), (2, .int (nI k)), (3, .int (nI 3))]) (hz_dec kX12_block 6 rfl) (by decide) rfl ?_
  refine hz_iload (pc := 12) 0 (hz_dec kX12_block 7 rfl) rfl ?_
  refine hz_iconst (pc := 14) (v := (-1)) (hz_dec kX12_block 8 rfl) (by decide) ?_
  refine hz_icmp_eq (pc := 15) (tgt := 28) (hz_dec kX12_block 9 rfl) (by decide) (fun hq1 => ?_) (fun hq1 => ?_)
  · skip
    exact absurd hq1 (by decide)
  · skip
    refine hz_iloadn (pc := 18) 4 (hz_dec kX12_block 10 rfl) rfl ?_
    refine hz_z_lt (pc := 19) (tgt := 28) (hz_dec kX12_block 11 rfl) (by decide) (by omega) ?_
    refine hz_iloadn (pc := 22) 4 (hz_dec kX12_block 12 rfl) rfl ?_
    refine hz_bipush (pc := 23) (v := nI 6) (hz_dec kX12_block 13 rfl) (by decide) ?_
    refine hz_n_le (pc := 25) (tgt := 30) (hz_dec kX12_block 14 rfl) (by decide) (by omega) (by omega) (fun hq3 => ?_) (fun hq3 => ?_)
    · skip
      refine hz_iload (pc := 30) 0 (hz_dec kX12_block 17 rfl) rfl ?_
      refine hz_bipush (pc := 32) (v := (-2)) (hz_dec kX12_block 18 rfl) (by decide) ?_
      refine hz_icmp_ne (pc := 34) (tgt := 40) (hz_dec kX12_block 19 rfl) (by decide) (fun hq4 => ?_) (fun hq4 => ?_)
      · skip
        refine hz_iloadn (pc := 40) 3 (hz_dec kX12_block 22 rfl) rfl ?_
        refine hz_z_lt (pc := 41) (tgt := 54) (hz_dec kX12_block 23 rfl) (by decide) (by omega) ?_
        refine hz_iloadn (pc := 44) 3 (hz_dec kX12_block 24 rfl) rfl ?_
        refine hz_aloadn (pc := 45) 1 (hz_dec kX12_block 25 rfl) rfl ?_
        refine hz_get (pc := 46) (v := .ref (B + 20)) (hz_dec kX12_block 26 rfl) fo_X12_71 hO1 h8 (by omega) (hF1.2 22 (by decide) (by decide)) ?_
        refine hz_iloadn (pc := 49) 2 (hz_dec kX12_block 27 rfl) rfl ?_
        refine hz_iald (pc := 50) (j := v) (hz_dec kX12_block 28 rfl) hE1.a20 (by omega) (by omega) rfl (by omega) (by decide) ?_
        refine hz_eqi (pc := 51) p5b.1 ?_
        refine hz_n_lt (pc := 51) (tgt := 56) (hz_dec kX12_block 29 rfl) (by decide) (by omega) (by omega) (fun h3 => ?_) (fun h3 => ?_)
        · skip
          refine hz_iloadn (pc := 56) 2 (hz_dec kX12_block 32 rfl) rfl ?_
          refine hz_iloadn (pc := 57) 3 (hz_dec kX12_block 33 rfl) rfl ?_
          refine hz_xS (pc := 58) (As := [.int (nI v), .int (nI k)]) (st := []) (hz_dec kX12_block 34 rfl) co_X12_419 sc_X12_at0 (c_at0 (v := v) (y := k)) rfl (by decide) ⟨Nat.le_refl _, Nat.le_refl _⟩ (Nat.le_of_ble_eq_true rfl) rfl ?_
          refine hz_istore (pc := 61) (i := 5) (lo2 := [(5, .int (nI (128 * v + k))), (4, .int (nI 0)), (0, .ref B), (1, .int (nI v)), (2, .int (nI k)), (3, .int (nI 3))]) (hz_dec kX12_block 35 rfl) (by decide) rfl ?_
          refine hz_iloadn (pc := 63) 5 (hz_dec kX12_block 36 rfl) rfl ?_
          refine hz_swIn (pc := 64) (off := 79) (tgt := 143) (hz_dec kX12_block 37 rfl) (by decide) (by decide) rfl (by decide) ?_
          refine hz_aloadn (pc := 143) 2 (hz_dec kX12_block 60 rfl) rfl ?_
          refine hz_get (pc := 144) (v := .ref (B + 29)) (hz_dec kX12_block 61 rfl) fo_X12_98 hO1 h8 (by omega) (hF1.2 31 (by decide) (by decide)) ?_
          refine hz_iload (pc := 147) 0 (hz_dec kX12_block 62 rfl) rfl ?_
          refine hz_iald (pc := 149) (j := 128 * v + k) (hz_dec kX12_block 63 rfl) hE1.a29 (by omega) (by omega) rfl (by omega) (by decide) ?_
          refine hz_eqi (pc := 150) ((p5a k (by omega)).1 hk).2.2.2 ?_
          exact hz_iret (pc := 150) (hz_dec kX12_block 64 rfl) rfl ⟨rfl, rfl, hf1.S rfl, hR1⟩
        · skip
          exact absurd hk (by omega)
      · skip
        exact absurd hq4 (by decide)
    · skip
      exact absurd hq3 (by decide)
set_option maxHeartbeats 4000000 in
set_option maxRecDepth 100000 in
theorem c_block4 {κ : hz_C} {z : Nat} {M : hz_M} {H : ho_H} (hz : 63 + 34 * (hoN H).length ≤ z) (hnn : (hoN H).length ≤ 6) (hT4 : (hoT H).length ≤ 4000) {ll : Nat} {fr kn : Int32} (hR : hcR M z H ll fr kn) {v : Nat} (hv : v < (hoN H).length) {N : nd_N} (hN : ndL (hoN H) v = N) {k : Nat} (hk : k < (ksB N.1).length) (hup : N.2.1 = true) (hI : ksI N.1) : hz_Mt κ xX11_block 2 0 0 [.ref 8, .int (nI v), .int (nI k), .int (nI 4)] z M (hcP M z H (.int (nI (bkN (bBy (ksB N.1) k)))) H) := by
  refine hz_ent (lo := [(0, .ref 8), (1, .int (nI v)), (2, .int (nI k)), (3, .int (nI 4))]) (by decide) (Nat.le_of_ble_eq_true rfl) rfl ?_
  have hH := hR.1
  have hNs := hR.2.1
  obtain ⟨hO, hQ, hD⟩ := id hR.2.2.2.2.1
  obtain ⟨g53, h53⟩ := hR.2.2.2.2.2.1
  have hJ := hR.2.2.2.1
  obtain ⟨g56, h56, hT56⟩ := hR.2.2.2.2.2.2.2.2.2.1
  have hdf := hR.2.2.2.2.2.2.2.2.2.2
  have hck : ck_k M z := hJ.2.2.2.2.2.2.2.1
  have hcs : ck_s M := hJ.2.2.2.2.2.2.2.2.1
  have hz63 : 63 ≤ z := by omega
  have hK := hR.2.2.1 v hv
  rw [hN] at hK
  obtain ⟨hn, ⟨gd, hgd, hgD⟩, hT, hC, hP, hL⟩ := id hK
  have hn : M (63 + 34 * v) = ndO (63 + 34 * v) (nI v) (nI 1) (nI (ksN N.1)) (pvI (ksF N.1)) N.2.2.1 N.2.2.2 := by rw [hup] at hn; exact hn
  have htO := hT.1
  have htR := hT.2.1.1
  rw [List.length_map] at htR
  obtain ⟨fb, fht, ftm, fbi, t5, t6, t7, t8, tX⟩ := id hT.2.2.2.1
  have hen : (enB (ksB N.1)).length = (ksB N.1).length := enB_len _
  have hrx := hT.2.1
  obtain ⟨fB, gB, hfB, hgB, hxB⟩ := hrx.2.2.2
  have hg1 : gB k = nI (offL ((ksB N.1).map Prod.fst) k) := hxB.1 k (by rw [List.length_map]; omega)
  have hbx : blX (ksB N.1) := hI.1.2.2.2.2.2.1
  have hbl := (hbx k hk).f
  have hoo : offL ((ksB N.1).map Prod.fst) k + (bBy (ksB N.1) k).length ≤ 12391 := by have r := offL_mono ((ksB N.1).map Prod.fst) (ksB N.1).length (k + 1) (by omega); simp only [offL] at r; rw [rowL_bl] at r; have r2 := hrx.2.2.1; rw [List.length_map] at r2; omega
  have hB80 : fB (offL ((ksB N.1).map Prod.fst) k + 80) = lf (bBy (ksB N.1) k) 80 := by have q := hxB.2 k (by rw [List.length_map]; exact hk) 80; rw [rowL_bl] at q; exact q (by omega)
  have hb113 := hI.1.top.2.1
  refine hz_aloadn (pc := 0) 0 (hz_dec kX11_block 0 rfl) rfl ?_
  refine hz_iloadn (pc := 1) 1 (hz_dec kX11_block 1 rfl) rfl ?_
  refine hz_xV (pc := 2) (a := 8) (As := [.int (nI v)]) (st := []) (hz_dec kX11_block 2 rfl) co_X11_162 im_X11_nodeOf se_X11_nodeOf rfl hH (by omega) (by omega) (c_nOf hz63 hH hnn hNs (b := v) hv) rfl (by decide) ⟨Nat.le_refl _, Nat.le_refl _⟩ (Nat.le_of_ble_eq_true rfl) rfl ?_
  refine hz_astore (pc := 5) (i := 4) (lo2 := [(4, .ref (63 + 34 * v)), (0, .ref 8), (1, .int (nI v)), (2, .int (nI k)), (3, .int (nI 4))]) (hz_dec kX11_block 3 rfl) (by decide) rfl ?_
  refine hz_aload (pc := 7) 0 (hz_dec kX11_block 4 rfl) rfl ?_
  refine hz_ifnull (pc := 9) (hz_dec kX11_block 5 rfl) ?_
  refine hz_iloadn (pc := 12) 4 (hz_dec kX11_block 6 rfl) rfl ?_
  refine hz_z_lt (pc := 13) (tgt := 22) (hz_dec kX11_block 7 rfl) (by decide) (by omega) ?_
  refine hz_iloadn (pc := 16) 4 (hz_dec kX11_block 8 rfl) rfl ?_
  refine hz_bipush (pc := 17) (v := nI 6) (hz_dec kX11_block 9 rfl) (by decide) ?_
  refine hz_n_le (pc := 19) (tgt := 24) (hz_dec kX11_block 10 rfl) (by decide) (by omega) (by omega) (fun hq2 => ?_) (fun hq2 => ?_)
  · skip
    refine hz_aload (pc := 24) 0 (hz_dec kX11_block 13 rfl) rfl ?_
    refine hz_get (pc := 26) (hz_dec kX11_block 14 rfl) fo_X11_166 hn (by omega) (by omega) rfl ?_
    refine hz_z_ne (pc := 29) (tgt := 35) (hz_dec kX11_block 15 rfl) (by decide) (by omega) (fun hq3 => ?_) (fun hq3 => ?_)
    · skip
      refine hz_aload (pc := 35) 0 (hz_dec kX11_block 18 rfl) rfl ?_
      refine hz_get (pc := 37) (hz_dec kX11_block 19 rfl) fo_X11_104 hn (by omega) (by omega) rfl ?_
      refine hz_astore (pc := 40) (i := 5) (lo2 := [(5, .ref (63 + 34 * v + 21)), (4, .ref (63 + 34 * v)), (0, .ref 8), (1, .int (nI v)), (2, .int (nI k)), (3, .int (nI 4))]) (hz_dec kX11_block 20 rfl) (by decide) rfl ?_
      refine hz_iloadn (pc := 42) 4 (hz_dec kX11_block 21 rfl) rfl ?_
      refine hz_z_lt (pc := 43) (tgt := 58) (hz_dec kX11_block 22 rfl) (by decide) (by omega) ?_
      refine hz_iloadn (pc := 46) 4 (hz_dec kX11_block 23 rfl) rfl ?_
      refine hz_aload (pc := 47) 0 (hz_dec kX11_block 24 rfl) rfl ?_
      refine hz_get (pc := 49) (hz_dec kX11_block 25 rfl) fo_X11_217 htO (by omega) (by omega) rfl ?_
      refine hz_get (pc := 52) (hz_dec kX11_block 26 rfl) fo_X11_220 htR (by omega) (by omega) rfl ?_
      refine hz_n_lt (pc := 55) (tgt := 60) (hz_dec kX11_block 27 rfl) (by decide) (by omega) (by omega) (fun h3 => ?_) (fun h3 => ?_)
      · skip
        refine hz_iloadn (pc := 60) 5 (hz_dec kX11_block 30 rfl) rfl ?_
        refine hz_swIn (pc := 61) (off := 80) (tgt := 141) (hz_dec kX11_block 31 rfl) (by decide) (by decide) rfl (by decide) ?_
        refine hz_aload (pc := 141) 0 (hz_dec kX11_block 56 rfl) rfl ?_
        refine hz_get (pc := 143) (hz_dec kX11_block 57 rfl) fo_X11_217 htO (by omega) (by omega) rfl ?_
        refine hz_get (pc := 146) (hz_dec kX11_block 58 rfl) fo_X11_225 htR (by omega) (by omega) rfl ?_
        refine hz_aload (pc := 149) 0 (hz_dec kX11_block 59 rfl) rfl ?_
        refine hz_get (pc := 151) (hz_dec kX11_block 60 rfl) fo_X11_217 htO (by omega) (by omega) rfl ?_
        refine hz_get (pc := 154) (hz_dec kX11_block 61 rfl) fo_X11_228 htR (by omega) (by omega) rfl ?_
        refine hz_iloadn (pc := 157) 4 (hz_dec kX11_block 62 rfl) rfl ?_
        refine hz_iald (pc := 158) (j := k) (hz_dec kX11_block 63 rfl) hgB (by omega) (by omega) rfl (by omega) (by omega) ?_
        refine hz_eqi (pc := 159) hg1 ?_
        refine hz_bipush (pc := 159) (v := nI 80) (hz_dec kX11_block 64 rfl) (by decide) ?_
        refine hz_addN (pc := 161) (hz_dec kX11_block 65 rfl) ?_
        refine hz_xS (pc := 162) (As := [.ref (63 + 34 * v + 21 + 1 + 1), .int (nI ((offL ((ksB N.1).map Prod.fst) k) + 80))]) (st := []) (hz_dec kX11_block 66 rfl) co_X11_358 sc_X0_one (c_one hfB (by omega) (by omega) (by decide) (i := offL ((ksB N.1).map Prod.fst) k + 80) (by omega)) rfl (by decide) ⟨Nat.le_refl _, Nat.le_refl _⟩ (Nat.le_of_ble_eq_true rfl) rfl ?_
        exact hz_iret (pc := 165) (hz_dec kX11_block 67 rfl) rfl (by rw [hB80, ← hbl.2.2.1]; exact hcP.no hR _)
      · skip
        exact absurd hk (by omega)
    · skip
      exact absurd hq3 (by decide)
  · skip
    exact absurd hq2 (by decide)
set_option maxHeartbeats 4000000 in
set_option maxRecDepth 100000 in
theorem c_rblock4 {κ : hz_C} {z B : Nat} {M : hz_M} {H : ho_H} (hnn : (hoN H).length ≤ 6) (hT4 : (hoT H).length ≤ 4000) (hR : hmR M z B H) {v : Nat} (hv : v < (hoN H).length) {N : nd_N} (hN : ndL (hoN H) v = N) {k : Nat} (hk : k < (ksB N.1).length) (hup : N.2.1 = true) (hI : ksI N.1) : hz_Mt κ xX12_block 3 0 0 [.ref B, .int (nI v), .int (nI k), .int (nI 4)] z M (hmP M z B (.int (nI (bkN (bBy (ksB N.1) k)))) H) := by
  refine hz_ent (lo := [(0, .ref B), (1, .int (nI v)), (2, .int (nI k)), (3, .int (nI 4))]) (by decide) (Nat.le_of_ble_eq_true rfl) rfl ?_
  obtain ⟨hk0_, hE0, ⟨m1, m2, m3⟩, hNd, a5, a6, a7, a8⟩ := id hR
  obtain ⟨⟨fs, hO, hF⟩, -, -, h8, hz⟩ := id hk0_
  obtain ⟨x1, x3, x4, x5, x6, x7, x8⟩ := id m3
  have eSt : stI (ndL (hoN H) v).2.1 = nI 0 := by rw [hN, hup]; rfl
  refine hz_aloadn (pc := 0) 0 (hz_dec kX12_block 0 rfl) rfl ?_
  refine hz_iconst (pc := 1) (v := nI 0) (hz_dec kX12_block 1 rfl) (by decide) ?_
  refine hz_puti (pc := 2) (hz_dec kX12_block 2 rfl) fo_X12_302 ft_X12_0 hO h8 (by omega) (by rw [hF.1]; decide) ?_
  have hf1 : mfr B [0, 89] [] M (va_up M B (.inr (12, (List.set fs 0 (.int (nI 0)))))) := (mfr.rf ⟨fs, hO, hF⟩).upO (k := 0) hO hF rfl rfl
  have hR1 : hmR (va_up M B (.inr (12, (List.set fs 0 (.int (nI 0)))))) z B H := hR.m0 hf1 hE0.upO ((fdB_of (va_up_self _ _ _) 89).trans ((List.getElem?_set_ne (by decide)).trans ((fdB_of hO 89).symm.trans x8)))
  generalize (va_up M B (.inr (12, (List.set fs 0 (.int (nI 0)))))) = M1 at *
  obtain ⟨hk1, hE1, ⟨n1, d1, q1⟩, hNd1, a51, a61, a71, a81⟩ := id hR1
  obtain ⟨⟨fs1, hO1, hF1⟩, -, -, -, -⟩ := id hk1
  have h0 : mdN M1 B v N := by have q := hNd1 v hv; rw [hN] at q; exact q
  have hv6 : v < 6 := by omega
  have h01 : mnS M1 B v 1 N.1 (pvI (ksF N.1)) (ksP N.1) := by have q := h0.1; rw [hup] at q; exact q
  have h02 : orX (fA M1 B) v (mkO (ksL N.1)) := by have q := h0.2.1; rw [hup] at q; exact q
  obtain ⟨p1, p2, p3, p4, ⟨p5a, p5b, p5c⟩, p6, p7, p9⟩ := id h01
  have hbp := hI.1.p hI.2.1
  obtain ⟨b1, b2, b3, b4, b5, b6, b7, b8⟩ := id hbp
  refine hz_aloadn (pc := 5) 0 (hz_dec kX12_block 3 rfl) rfl ?_
  refine hz_iloadn (pc := 6) 1 (hz_dec kX12_block 4 rfl) rfl ?_
  refine hz_xV (pc := 7) (a := B) (As := [.int (nI v)]) (st := []) (hz_dec kX12_block 5 rfl) co_X12_692 im_X12_stateOf se_X12_stateOf rfl hO1 h8 (by omega) (c_st hnn hR1 hv) rfl (by decide) ⟨Nat.le_refl _, Nat.le_refl _⟩ (Nat.le_of_ble_eq_true rfl) rfl ?_
  refine hz_eqi (pc := 10) eSt ?_
  refine hz_istore (pc := 10) (i := 4) (lo2 := [(4, .int (nI 0)), (0, .ref B), (1, .int (nI v)), (2, .int (nI k)), (3, .int (nI 4))]) (hz_dec kX12_block 6 rfl) (by decide) rfl ?_
  refine hz_iload (pc := 12) 0 (hz_dec kX12_block 7 rfl) rfl ?_
  refine hz_iconst (pc := 14) (v := (-1)) (hz_dec kX12_block 8 rfl) (by decide) ?_
  refine hz_icmp_eq (pc := 15) (tgt := 28) (hz_dec kX12_block 9 rfl) (by decide) (fun hq1 => ?_) (fun hq1 => ?_)
  · skip
    exact absurd hq1 (by decide)
  · skip
    refine hz_iloadn (pc := 18) 4 (hz_dec kX12_block 10 rfl) rfl ?_
    refine hz_z_lt (pc := 19) (tgt := 28) (hz_dec kX12_block 11 rfl) (by decide) (by omega) ?_
    refine hz_iloadn (pc := 22) 4 (hz_dec kX12_block 12 rfl) rfl ?_
    refine hz_bipush (pc := 23) (v := nI 6) (hz_dec kX12_block 13 rfl) (by decide) ?_
    refine hz_n_le (pc := 25) (tgt := 30) (hz_dec kX12_block 14 rfl) (by decide) (by omega) (by omega) (fun hq3 => ?_) (fun hq3 => ?_)
    · skip
      refine hz_iload (pc := 30) 0 (hz_dec kX12_block 17 rfl) rfl ?_
      refine hz_bipush (pc := 32) (v := (-2)) (hz_dec kX12_block 18 rfl) (by decide) ?_
      refine hz_icmp_ne (pc := 34) (tgt := 40) (hz_dec kX12_block 19 rfl) (by decide) (fun hq4 => ?_) (fun hq4 => ?_)
      · skip
        refine hz_iloadn (pc := 40) 3 (hz_dec kX12_block 22 rfl) rfl ?_
        refine hz_z_lt (pc := 41) (tgt := 54) (hz_dec kX12_block 23 rfl) (by decide) (by omega) ?_
        refine hz_iloadn (pc := 44) 3 (hz_dec kX12_block 24 rfl) rfl ?_
        refine hz_aloadn (pc := 45) 1 (hz_dec kX12_block 25 rfl) rfl ?_
        refine hz_get (pc := 46) (v := .ref (B + 20)) (hz_dec kX12_block 26 rfl) fo_X12_71 hO1 h8 (by omega) (hF1.2 22 (by decide) (by decide)) ?_
        refine hz_iloadn (pc := 49) 2 (hz_dec kX12_block 27 rfl) rfl ?_
        refine hz_iald (pc := 50) (j := v) (hz_dec kX12_block 28 rfl) hE1.a20 (by omega) (by omega) rfl (by omega) (by decide) ?_
        refine hz_eqi (pc := 51) p5b.1 ?_
        refine hz_n_lt (pc := 51) (tgt := 56) (hz_dec kX12_block 29 rfl) (by decide) (by omega) (by omega) (fun h3 => ?_) (fun h3 => ?_)
        · skip
          refine hz_iloadn (pc := 56) 2 (hz_dec kX12_block 32 rfl) rfl ?_
          refine hz_iloadn (pc := 57) 3 (hz_dec kX12_block 33 rfl) rfl ?_
          refine hz_xS (pc := 58) (As := [.int (nI v), .int (nI k)]) (st := []) (hz_dec kX12_block 34 rfl) co_X12_419 sc_X12_at0 (c_at0 (v := v) (y := k)) rfl (by decide) ⟨Nat.le_refl _, Nat.le_refl _⟩ (Nat.le_of_ble_eq_true rfl) rfl ?_
          refine hz_istore (pc := 61) (i := 5) (lo2 := [(5, .int (nI (128 * v + k))), (4, .int (nI 0)), (0, .ref B), (1, .int (nI v)), (2, .int (nI k)), (3, .int (nI 4))]) (hz_dec kX12_block 35 rfl) (by decide) rfl ?_
          refine hz_iloadn (pc := 63) 5 (hz_dec kX12_block 36 rfl) rfl ?_
          refine hz_swIn (pc := 64) (off := 87) (tgt := 151) (hz_dec kX12_block 37 rfl) (by decide) (by decide) rfl (by decide) ?_
          refine hz_aloadn (pc := 151) 2 (hz_dec kX12_block 65 rfl) rfl ?_
          refine hz_get (pc := 152) (v := .ref (B + 32)) (hz_dec kX12_block 66 rfl) fo_X12_107 hO1 h8 (by omega) (hF1.2 34 (by decide) (by decide)) ?_
          refine hz_iload (pc := 155) 0 (hz_dec kX12_block 67 rfl) rfl ?_
          refine hz_iald (pc := 157) (j := 128 * v + k) (hz_dec kX12_block 68 rfl) hE1.a32 (by omega) (by omega) rfl (by omega) (by decide) ?_
          refine hz_eqi (pc := 158) (p5b.2.2 k hk).2.2.2.1 ?_
          exact hz_iret (pc := 158) (hz_dec kX12_block 69 rfl) rfl ⟨rfl, rfl, hf1.S rfl, hR1⟩
        · skip
          exact absurd hk (by omega)
      · skip
        exact absurd hq4 (by decide)
    · skip
      exact absurd hq3 (by decide)
set_option maxHeartbeats 4000000 in
set_option maxRecDepth 100000 in
theorem c_block5 {κ : hz_C} {z : Nat} {M : hz_M} {H : ho_H} (hz : 63 + 34 * (hoN H).length ≤ z) (hnn : (hoN H).length ≤ 6) (hT4 : (hoT H).length ≤ 4000) {ll : Nat} {fr kn : Int32} (hR : hcR M z H ll fr kn) {v : Nat} (hv : v < (hoN H).length) {N : nd_N} (hN : ndL (hoN H) v = N) {k : Nat} (hk : k < (ksB N.1).length) (hup : N.2.1 = true) (hI : ksI N.1) : hz_Mt κ xX11_block 2 0 0 [.ref 8, .int (nI v), .int (nI k), .int (nI 5)] z M (hcP M z H (.int (nI (bBy (ksB N.1) k).length)) H) := by
  refine hz_ent (lo := [(0, .ref 8), (1, .int (nI v)), (2, .int (nI k)), (3, .int (nI 5))]) (by decide) (Nat.le_of_ble_eq_true rfl) rfl ?_
  have hH := hR.1
  have hNs := hR.2.1
  obtain ⟨hO, hQ, hD⟩ := id hR.2.2.2.2.1
  obtain ⟨g53, h53⟩ := hR.2.2.2.2.2.1
  have hJ := hR.2.2.2.1
  obtain ⟨g56, h56, hT56⟩ := hR.2.2.2.2.2.2.2.2.2.1
  have hdf := hR.2.2.2.2.2.2.2.2.2.2
  have hck : ck_k M z := hJ.2.2.2.2.2.2.2.1
  have hcs : ck_s M := hJ.2.2.2.2.2.2.2.2.1
  have hz63 : 63 ≤ z := by omega
  have hK := hR.2.2.1 v hv
  rw [hN] at hK
  obtain ⟨hn, ⟨gd, hgd, hgD⟩, hT, hC, hP, hL⟩ := id hK
  have hn : M (63 + 34 * v) = ndO (63 + 34 * v) (nI v) (nI 1) (nI (ksN N.1)) (pvI (ksF N.1)) N.2.2.1 N.2.2.2 := by rw [hup] at hn; exact hn
  have htO := hT.1
  have htR := hT.2.1.1
  rw [List.length_map] at htR
  obtain ⟨fb, fht, ftm, fbi, t5, t6, t7, t8, tX⟩ := id hT.2.2.2.1
  have hen : (enB (ksB N.1)).length = (ksB N.1).length := enB_len _
  have hrx := hT.2.1
  obtain ⟨fB, gB, hfB, hgB, hxB⟩ := hrx.2.2.2
  have hg1 : gB k = nI (offL ((ksB N.1).map Prod.fst) k) := hxB.1 k (by rw [List.length_map]; omega)
  have hbx : blX (ksB N.1) := hI.1.2.2.2.2.2.1
  have hbl := (hbx k hk).f
  have hoo : offL ((ksB N.1).map Prod.fst) k + (bBy (ksB N.1) k).length ≤ 12391 := by have r := offL_mono ((ksB N.1).map Prod.fst) (ksB N.1).length (k + 1) (by omega); simp only [offL] at r; rw [rowL_bl] at r; have r2 := hrx.2.2.1; rw [List.length_map] at r2; omega
  have hB80 : fB (offL ((ksB N.1).map Prod.fst) k + 80) = lf (bBy (ksB N.1) k) 80 := by have q := hxB.2 k (by rw [List.length_map]; exact hk) 80; rw [rowL_bl] at q; exact q (by omega)
  have hb113 := hI.1.top.2.1
  refine hz_aloadn (pc := 0) 0 (hz_dec kX11_block 0 rfl) rfl ?_
  refine hz_iloadn (pc := 1) 1 (hz_dec kX11_block 1 rfl) rfl ?_
  refine hz_xV (pc := 2) (a := 8) (As := [.int (nI v)]) (st := []) (hz_dec kX11_block 2 rfl) co_X11_162 im_X11_nodeOf se_X11_nodeOf rfl hH (by omega) (by omega) (c_nOf hz63 hH hnn hNs (b := v) hv) rfl (by decide) ⟨Nat.le_refl _, Nat.le_refl _⟩ (Nat.le_of_ble_eq_true rfl) rfl ?_
  refine hz_astore (pc := 5) (i := 4) (lo2 := [(4, .ref (63 + 34 * v)), (0, .ref 8), (1, .int (nI v)), (2, .int (nI k)), (3, .int (nI 5))]) (hz_dec kX11_block 3 rfl) (by decide) rfl ?_
  refine hz_aload (pc := 7) 0 (hz_dec kX11_block 4 rfl) rfl ?_
  refine hz_ifnull (pc := 9) (hz_dec kX11_block 5 rfl) ?_
  refine hz_iloadn (pc := 12) 4 (hz_dec kX11_block 6 rfl) rfl ?_
  refine hz_z_lt (pc := 13) (tgt := 22) (hz_dec kX11_block 7 rfl) (by decide) (by omega) ?_
  refine hz_iloadn (pc := 16) 4 (hz_dec kX11_block 8 rfl) rfl ?_
  refine hz_bipush (pc := 17) (v := nI 6) (hz_dec kX11_block 9 rfl) (by decide) ?_
  refine hz_n_le (pc := 19) (tgt := 24) (hz_dec kX11_block 10 rfl) (by decide) (by omega) (by omega) (fun hq2 => ?_) (fun hq2 => ?_)
  · skip
    refine hz_aload (pc := 24) 0 (hz_dec kX11_block 13 rfl) rfl ?_
    refine hz_get (pc := 26) (hz_dec kX11_block 14 rfl) fo_X11_166 hn (by omega) (by omega) rfl ?_
    refine hz_z_ne (pc := 29) (tgt := 35) (hz_dec kX11_block 15 rfl) (by decide) (by omega) (fun hq3 => ?_) (fun hq3 => ?_)
    · skip
      refine hz_aload (pc := 35) 0 (hz_dec kX11_block 18 rfl) rfl ?_
      refine hz_get (pc := 37) (hz_dec kX11_block 19 rfl) fo_X11_104 hn (by omega) (by omega) rfl ?_
      refine hz_astore (pc := 40) (i := 5) (lo2 := [(5, .ref (63 + 34 * v + 21)), (4, .ref (63 + 34 * v)), (0, .ref 8), (1, .int (nI v)), (2, .int (nI k)), (3, .int (nI 5))]) (hz_dec kX11_block 20 rfl) (by decide) rfl ?_
      refine hz_iloadn (pc := 42) 4 (hz_dec kX11_block 21 rfl) rfl ?_
      refine hz_z_lt (pc := 43) (tgt := 58) (hz_dec kX11_block 22 rfl) (by decide) (by omega) ?_
      refine hz_iloadn (pc := 46) 4 (hz_dec kX11_block 23 rfl) rfl ?_
      refine hz_aload (pc := 47) 0 (hz_dec kX11_block 24 rfl) rfl ?_
      refine hz_get (pc := 49) (hz_dec kX11_block 25 rfl) fo_X11_217 htO (by omega) (by omega) rfl ?_
      refine hz_get (pc := 52) (hz_dec kX11_block 26 rfl) fo_X11_220 htR (by omega) (by omega) rfl ?_
      refine hz_n_lt (pc := 55) (tgt := 60) (hz_dec kX11_block 27 rfl) (by decide) (by omega) (by omega) (fun h3 => ?_) (fun h3 => ?_)
      · skip
        refine hz_iloadn (pc := 60) 5 (hz_dec kX11_block 30 rfl) rfl ?_
        refine hz_swIn (pc := 61) (off := 105) (tgt := 166) (hz_dec kX11_block 31 rfl) (by decide) (by decide) rfl (by decide) ?_
        refine hz_aload (pc := 166) 0 (hz_dec kX11_block 68 rfl) rfl ?_
        refine hz_get (pc := 168) (hz_dec kX11_block 69 rfl) fo_X11_217 htO (by omega) (by omega) rfl ?_
        refine hz_iloadn (pc := 171) 4 (hz_dec kX11_block 70 rfl) rfl ?_
        refine hz_xV (pc := 172) (a := 63 + 34 * v + 21 + 1) (As := [.int (nI k)]) (st := []) (hz_dec kX11_block 71 rfl) co_X11_221 im_X7_lengthOf se_X7_lengthOf rfl htR (by omega) (by omega) (c_lenOf hrx (by omega) (by omega) (by decide) (by decide) (k := k) (by rw [List.length_map]; exact hk)) rfl (by decide) ⟨Nat.le_refl _, Nat.le_refl _⟩ (Nat.le_of_ble_eq_true rfl) rfl ?_
        exact hz_iret (pc := 175) (hz_dec kX11_block 72 rfl) rfl (by rw [rowL_bl]; exact hcP.no hR _)
      · skip
        exact absurd hk (by omega)
    · skip
      exact absurd hq3 (by decide)
  · skip
    exact absurd hq2 (by decide)
set_option maxHeartbeats 4000000 in
set_option maxRecDepth 100000 in
theorem c_rblock5 {κ : hz_C} {z B : Nat} {M : hz_M} {H : ho_H} (hnn : (hoN H).length ≤ 6) (hT4 : (hoT H).length ≤ 4000) (hR : hmR M z B H) {v : Nat} (hv : v < (hoN H).length) {N : nd_N} (hN : ndL (hoN H) v = N) {k : Nat} (hk : k < (ksB N.1).length) (hup : N.2.1 = true) (hI : ksI N.1) : hz_Mt κ xX12_block 3 0 0 [.ref B, .int (nI v), .int (nI k), .int (nI 5)] z M (hmP M z B (.int (nI (bBy (ksB N.1) k).length)) H) := by
  refine hz_ent (lo := [(0, .ref B), (1, .int (nI v)), (2, .int (nI k)), (3, .int (nI 5))]) (by decide) (Nat.le_of_ble_eq_true rfl) rfl ?_
  obtain ⟨hk0_, hE0, ⟨m1, m2, m3⟩, hNd, a5, a6, a7, a8⟩ := id hR
  obtain ⟨⟨fs, hO, hF⟩, -, -, h8, hz⟩ := id hk0_
  obtain ⟨x1, x3, x4, x5, x6, x7, x8⟩ := id m3
  have eSt : stI (ndL (hoN H) v).2.1 = nI 0 := by rw [hN, hup]; rfl
  refine hz_aloadn (pc := 0) 0 (hz_dec kX12_block 0 rfl) rfl ?_
  refine hz_iconst (pc := 1) (v := nI 0) (hz_dec kX12_block 1 rfl) (by decide) ?_
  refine hz_puti (pc := 2) (hz_dec kX12_block 2 rfl) fo_X12_302 ft_X12_0 hO h8 (by omega) (by rw [hF.1]; decide) ?_
  have hf1 : mfr B [0, 89] [] M (va_up M B (.inr (12, (List.set fs 0 (.int (nI 0)))))) := (mfr.rf ⟨fs, hO, hF⟩).upO (k := 0) hO hF rfl rfl
  have hR1 : hmR (va_up M B (.inr (12, (List.set fs 0 (.int (nI 0)))))) z B H := hR.m0 hf1 hE0.upO ((fdB_of (va_up_self _ _ _) 89).trans ((List.getElem?_set_ne (by decide)).trans ((fdB_of hO 89).symm.trans x8)))
  generalize (va_up M B (.inr (12, (List.set fs 0 (.int (nI 0)))))) = M1 at *
  obtain ⟨hk1, hE1, ⟨n1, d1, q1⟩, hNd1, a51, a61, a71, a81⟩ := id hR1
  obtain ⟨⟨fs1, hO1, hF1⟩, -, -, -, -⟩ := id hk1
  have h0 : mdN M1 B v N := by have q := hNd1 v hv; rw [hN] at q; exact q
  have hv6 : v < 6 := by omega
  have h01 : mnS M1 B v 1 N.1 (pvI (ksF N.1)) (ksP N.1) := by have q := h0.1; rw [hup] at q; exact q
  have h02 : orX (fA M1 B) v (mkO (ksL N.1)) := by have q := h0.2.1; rw [hup] at q; exact q
  obtain ⟨p1, p2, p3, p4, ⟨p5a, p5b, p5c⟩, p6, p7, p9⟩ := id h01
  have hbp := hI.1.p hI.2.1
  obtain ⟨b1, b2, b3, b4, b5, b6, b7, b8⟩ := id hbp
  refine hz_aloadn (pc := 5) 0 (hz_dec kX12_block 3 rfl) rfl ?_
  refine hz_iloadn (pc := 6) 1 (hz_dec kX12_block 4 rfl) rfl ?_
  refine hz_xV (pc := 7) (a := B) (As := [.int (nI v)]) (st := []) (hz_dec kX12_block 5 rfl) co_X12_692 im_X12_stateOf se_X12_stateOf rfl hO1 h8 (by omega) (c_st hnn hR1 hv) rfl (by decide) ⟨Nat.le_refl _, Nat.le_refl _⟩ (Nat.le_of_ble_eq_true rfl) rfl ?_
  refine hz_eqi (pc := 10) eSt ?_
  refine hz_istore (pc := 10) (i := 4) (lo2 := [(4, .int (nI 0)), (0, .ref B), (1, .int (nI v)), (2, .int (nI k)), (3, .int (nI 5))]) (hz_dec kX12_block 6 rfl) (by decide) rfl ?_
  refine hz_iload (pc := 12) 0 (hz_dec kX12_block 7 rfl) rfl ?_
  refine hz_iconst (pc := 14) (v := (-1)) (hz_dec kX12_block 8 rfl) (by decide) ?_
  refine hz_icmp_eq (pc := 15) (tgt := 28) (hz_dec kX12_block 9 rfl) (by decide) (fun hq1 => ?_) (fun hq1 => ?_)
  · skip
    exact absurd hq1 (by decide)
  · skip
    refine hz_iloadn (pc := 18) 4 (hz_dec kX12_block 10 rfl) rfl ?_
    refine hz_z_lt (pc := 19) (tgt := 28) (hz_dec kX12_block 11 rfl) (by decide) (by omega) ?_
    refine hz_iloadn (pc := 22) 4 (hz_dec kX12_block 12 rfl) rfl ?_
    refine hz_bipush (pc := 23) (v := nI 6) (hz_dec kX12_block 13 rfl) (by decide) ?_
    refine hz_n_le (pc := 25) (tgt := 30) (hz_dec kX12_block 14 rfl) (by decide) (by omega) (by omega) (fun hq3 => ?_) (fun hq3 => ?_)
    · skip
      refine hz_iload (pc := 30) 0 (hz_dec kX12_block 17 rfl) rfl ?_
      refine hz_bipush (pc := 32) (v := (-2)) (hz_dec kX12_block 18 rfl) (by decide) ?_
      refine hz_icmp_ne (pc := 34) (tgt := 40) (hz_dec kX12_block 19 rfl) (by decide) (fun hq4 => ?_) (fun hq4 => ?_)
      · skip
        refine hz_iloadn (pc := 40) 3 (hz_dec kX12_block 22 rfl) rfl ?_
        refine hz_z_lt (pc := 41) (tgt := 54) (hz_dec kX12_block 23 rfl) (by decide) (by omega) ?_
        refine hz_iloadn (pc := 44) 3 (hz_dec kX12_block 24 rfl) rfl ?_
        refine hz_aloadn (pc := 45) 1 (hz_dec kX12_block 25 rfl) rfl ?_
        refine hz_get (pc := 46) (v := .ref (B + 20)) (hz_dec kX12_block 26 rfl) fo_X12_71 hO1 h8 (by omega) (hF1.2 22 (by decide) (by decide)) ?_
        refine hz_iloadn (pc := 49) 2 (hz_dec kX12_block 27 rfl) rfl ?_
        refine hz_iald (pc := 50) (j := v) (hz_dec kX12_block 28 rfl) hE1.a20 (by omega) (by omega) rfl (by omega) (by decide) ?_
        refine hz_eqi (pc := 51) p5b.1 ?_
        refine hz_n_lt (pc := 51) (tgt := 56) (hz_dec kX12_block 29 rfl) (by decide) (by omega) (by omega) (fun h3 => ?_) (fun h3 => ?_)
        · skip
          refine hz_iloadn (pc := 56) 2 (hz_dec kX12_block 32 rfl) rfl ?_
          refine hz_iloadn (pc := 57) 3 (hz_dec kX12_block 33 rfl) rfl ?_
          refine hz_xS (pc := 58) (As := [.int (nI v), .int (nI k)]) (st := []) (hz_dec kX12_block 34 rfl) co_X12_419 sc_X12_at0 (c_at0 (v := v) (y := k)) rfl (by decide) ⟨Nat.le_refl _, Nat.le_refl _⟩ (Nat.le_of_ble_eq_true rfl) rfl ?_
          refine hz_istore (pc := 61) (i := 5) (lo2 := [(5, .int (nI (128 * v + k))), (4, .int (nI 0)), (0, .ref B), (1, .int (nI v)), (2, .int (nI k)), (3, .int (nI 5))]) (hz_dec kX12_block 35 rfl) (by decide) rfl ?_
          refine hz_iloadn (pc := 63) 5 (hz_dec kX12_block 36 rfl) rfl ?_
          refine hz_swIn (pc := 64) (off := 95) (tgt := 159) (hz_dec kX12_block 37 rfl) (by decide) (by decide) rfl (by decide) ?_
          refine hz_aloadn (pc := 159) 2 (hz_dec kX12_block 70 rfl) rfl ?_
          refine hz_get (pc := 160) (v := .ref (B + 25)) (hz_dec kX12_block 71 rfl) fo_X12_86 hO1 h8 (by omega) (hF1.2 27 (by decide) (by decide)) ?_
          refine hz_iload (pc := 163) 0 (hz_dec kX12_block 72 rfl) rfl ?_
          refine hz_iald (pc := 165) (j := 128 * v + k) (hz_dec kX12_block 73 rfl) hE1.a25 (by omega) (by omega) rfl (by omega) (by decide) ?_
          refine hz_eqi (pc := 166) (p5b.2.2 k hk).1 ?_
          exact hz_iret (pc := 166) (hz_dec kX12_block 74 rfl) rfl ⟨rfl, rfl, hf1.S rfl, hR1⟩
        · skip
          exact absurd hk (by omega)
      · skip
        exact absurd hq4 (by decide)
    · skip
      exact absurd hq3 (by decide)
set_option maxHeartbeats 4000000 in
set_option maxRecDepth 100000 in
theorem c_block6 {κ : hz_C} {z : Nat} {M : hz_M} {H : ho_H} (hz : 63 + 34 * (hoN H).length ≤ z) (hnn : (hoN H).length ≤ 6) (hT4 : (hoT H).length ≤ 4000) {ll : Nat} {fr kn : Int32} (hR : hcR M z H ll fr kn) {v : Nat} (hv : v < (hoN H).length) {N : nd_N} (hN : ndL (hoN H) v = N) {k : Nat} (hk : k < (ksB N.1).length) (hup : N.2.1 = true) (hI : ksI N.1) : hz_Mt κ xX11_block 2 0 0 [.ref 8, .int (nI v), .int (nI k), .int (nI 6)] z M (hcP M z H (.int (hz_b (onC (enB (ksB N.1)) (ksT N.1) k))) H) := by
  refine hz_ent (lo := [(0, .ref 8), (1, .int (nI v)), (2, .int (nI k)), (3, .int (nI 6))]) (by decide) (Nat.le_of_ble_eq_true rfl) rfl ?_
  have hH := hR.1
  have hNs := hR.2.1
  obtain ⟨hO, hQ, hD⟩ := id hR.2.2.2.2.1
  obtain ⟨g53, h53⟩ := hR.2.2.2.2.2.1
  have hJ := hR.2.2.2.1
  obtain ⟨g56, h56, hT56⟩ := hR.2.2.2.2.2.2.2.2.2.1
  have hdf := hR.2.2.2.2.2.2.2.2.2.2
  have hck : ck_k M z := hJ.2.2.2.2.2.2.2.1
  have hcs : ck_s M := hJ.2.2.2.2.2.2.2.2.1
  have hz63 : 63 ≤ z := by omega
  have hK := hR.2.2.1 v hv
  rw [hN] at hK
  obtain ⟨hn, ⟨gd, hgd, hgD⟩, hT, hC, hP, hL⟩ := id hK
  have hn : M (63 + 34 * v) = ndO (63 + 34 * v) (nI v) (nI 1) (nI (ksN N.1)) (pvI (ksF N.1)) N.2.2.1 N.2.2.2 := by rw [hup] at hn; exact hn
  have htO := hT.1
  have htR := hT.2.1.1
  rw [List.length_map] at htR
  obtain ⟨fb, fht, ftm, fbi, t5, t6, t7, t8, tX⟩ := id hT.2.2.2.1
  have hen : (enB (ksB N.1)).length = (ksB N.1).length := enB_len _
  have hrx := hT.2.1
  obtain ⟨fB, gB, hfB, hgB, hxB⟩ := hrx.2.2.2
  have hg1 : gB k = nI (offL ((ksB N.1).map Prod.fst) k) := hxB.1 k (by rw [List.length_map]; omega)
  have hbx : blX (ksB N.1) := hI.1.2.2.2.2.2.1
  have hbl := (hbx k hk).f
  have hoo : offL ((ksB N.1).map Prod.fst) k + (bBy (ksB N.1) k).length ≤ 12391 := by have r := offL_mono ((ksB N.1).map Prod.fst) (ksB N.1).length (k + 1) (by omega); simp only [offL] at r; rw [rowL_bl] at r; have r2 := hrx.2.2.1; rw [List.length_map] at r2; omega
  have hB80 : fB (offL ((ksB N.1).map Prod.fst) k + 80) = lf (bBy (ksB N.1) k) 80 := by have q := hxB.2 k (by rw [List.length_map]; exact hk) 80; rw [rowL_bl] at q; exact q (by omega)
  have hb113 := hI.1.top.2.1
  refine hz_aloadn (pc := 0) 0 (hz_dec kX11_block 0 rfl) rfl ?_
  refine hz_iloadn (pc := 1) 1 (hz_dec kX11_block 1 rfl) rfl ?_
  refine hz_xV (pc := 2) (a := 8) (As := [.int (nI v)]) (st := []) (hz_dec kX11_block 2 rfl) co_X11_162 im_X11_nodeOf se_X11_nodeOf rfl hH (by omega) (by omega) (c_nOf hz63 hH hnn hNs (b := v) hv) rfl (by decide) ⟨Nat.le_refl _, Nat.le_refl _⟩ (Nat.le_of_ble_eq_true rfl) rfl ?_
  refine hz_astore (pc := 5) (i := 4) (lo2 := [(4, .ref (63 + 34 * v)), (0, .ref 8), (1, .int (nI v)), (2, .int (nI k)), (3, .int (nI 6))]) (hz_dec kX11_block 3 rfl) (by decide) rfl ?_
  refine hz_aload (pc := 7) 0 (hz_dec kX11_block 4 rfl) rfl ?_
  refine hz_ifnull (pc := 9) (hz_dec kX11_block 5 rfl) ?_
  refine hz_iloadn (pc := 12) 4 (hz_dec kX11_block 6 rfl) rfl ?_
  refine hz_z_lt (pc := 13) (tgt := 22) (hz_dec kX11_block 7 rfl) (by decide) (by omega) ?_
  refine hz_iloadn (pc := 16) 4 (hz_dec kX11_block 8 rfl) rfl ?_
  refine hz_bipush (pc := 17) (v := nI 6) (hz_dec kX11_block 9 rfl) (by decide) ?_
  refine hz_n_le (pc := 19) (tgt := 24) (hz_dec kX11_block 10 rfl) (by decide) (by omega) (by omega) (fun hq2 => ?_) (fun hq2 => ?_)
  · skip
    refine hz_aload (pc := 24) 0 (hz_dec kX11_block 13 rfl) rfl ?_
    refine hz_get (pc := 26) (hz_dec kX11_block 14 rfl) fo_X11_166 hn (by omega) (by omega) rfl ?_
    refine hz_z_ne (pc := 29) (tgt := 35) (hz_dec kX11_block 15 rfl) (by decide) (by omega) (fun hq3 => ?_) (fun hq3 => ?_)
    · skip
      refine hz_aload (pc := 35) 0 (hz_dec kX11_block 18 rfl) rfl ?_
      refine hz_get (pc := 37) (hz_dec kX11_block 19 rfl) fo_X11_104 hn (by omega) (by omega) rfl ?_
      refine hz_astore (pc := 40) (i := 5) (lo2 := [(5, .ref (63 + 34 * v + 21)), (4, .ref (63 + 34 * v)), (0, .ref 8), (1, .int (nI v)), (2, .int (nI k)), (3, .int (nI 6))]) (hz_dec kX11_block 20 rfl) (by decide) rfl ?_
      refine hz_iloadn (pc := 42) 4 (hz_dec kX11_block 21 rfl) rfl ?_
      refine hz_z_lt (pc := 43) (tgt := 58) (hz_dec kX11_block 22 rfl) (by decide) (by omega) ?_
      refine hz_iloadn (pc := 46) 4 (hz_dec kX11_block 23 rfl) rfl ?_
      refine hz_aload (pc := 47) 0 (hz_dec kX11_block 24 rfl) rfl ?_
      refine hz_get (pc := 49) (hz_dec kX11_block 25 rfl) fo_X11_217 htO (by omega) (by omega) rfl ?_
      refine hz_get (pc := 52) (hz_dec kX11_block 26 rfl) fo_X11_220 htR (by omega) (by omega) rfl ?_
      refine hz_n_lt (pc := 55) (tgt := 60) (hz_dec kX11_block 27 rfl) (by decide) (by omega) (by omega) (fun h3 => ?_) (fun h3 => ?_)
      · skip
        refine hz_iloadn (pc := 60) 5 (hz_dec kX11_block 30 rfl) rfl ?_
        refine hz_swOut (pc := 61) (tgt := 176) (hz_dec kX11_block 31 rfl) (Or.inr (by decide)) (by decide) ?_
        refine hz_aload (pc := 176) 0 (hz_dec kX11_block 73 rfl) rfl ?_
        refine hz_iloadn (pc := 178) 4 (hz_dec kX11_block 74 rfl) rfl ?_
        refine hz_xV (pc := 179) (a := 63 + 34 * v + 21) (As := [.int (nI k)]) (st := []) (hz_dec kX11_block 75 rfl) co_X11_395 im_X10_isOnChain se_X10_isOnChain rfl htO (by omega) (by omega) (c_trOn hT (by omega) (by omega) hk) rfl (by decide) ⟨Nat.le_refl _, Nat.le_refl _⟩ (Nat.le_of_ble_eq_true rfl) rfl ?_
        refine hz_if_eq (pc := 182) (tgt := 189) (hz_dec kX11_block 76 rfl) (by decide) (fun h6 => ?_) (fun h6 => ?_)
        · skip
          refine hz_iconst (pc := 189) (v := nI 0) (hz_dec kX11_block 79 rfl) (by decide) ?_
          exact hz_iret (pc := 190) (hz_dec kX11_block 80 rfl) rfl (by rw [h6]; exact hcP.no hR _)
        · skip
          refine hz_iconst (pc := 185) (v := nI 1) (hz_dec kX11_block 77 rfl) (by decide) ?_
          refine hz_goto (pc := 186) (tgt := 190) (hz_dec kX11_block 78 rfl) (by decide) ?_
          exact hz_iret (pc := 190) (hz_dec kX11_block 80 rfl) rfl (by rw [hz_b1 h6]; exact hcP.no hR _)
      · skip
        exact absurd hk (by omega)
    · skip
      exact absurd hq3 (by decide)
  · skip
    exact absurd hq2 (by decide)
set_option maxHeartbeats 4000000 in
set_option maxRecDepth 100000 in
theorem c_rblock6 {κ : hz_C} {z B : Nat} {M : hz_M} {H : ho_H} (hnn : (hoN H).length ≤ 6) (hT4 : (hoT H).length ≤ 4000) (hR : hmR M z B H) {v : Nat} (hv : v < (hoN H).length) {N : nd_N} (hN : ndL (hoN H) v = N) {k : Nat} (hk : k < (ksB N.1).length) (hup : N.2.1 = true) (hI : ksI N.1) : hz_Mt κ xX12_block 3 0 0 [.ref B, .int (nI v), .int (nI k), .int (nI 6)] z M (hmP M z B (.int (hz_b (onC (enB (ksB N.1)) (ksT N.1) k))) H) := by
  refine hz_ent (lo := [(0, .ref B), (1, .int (nI v)), (2, .int (nI k)), (3, .int (nI 6))]) (by decide) (Nat.le_of_ble_eq_true rfl) rfl ?_
  obtain ⟨hk0_, hE0, ⟨m1, m2, m3⟩, hNd, a5, a6, a7, a8⟩ := id hR
  obtain ⟨⟨fs, hO, hF⟩, -, -, h8, hz⟩ := id hk0_
  obtain ⟨x1, x3, x4, x5, x6, x7, x8⟩ := id m3
  have eSt : stI (ndL (hoN H) v).2.1 = nI 0 := by rw [hN, hup]; rfl
  refine hz_aloadn (pc := 0) 0 (hz_dec kX12_block 0 rfl) rfl ?_
  refine hz_iconst (pc := 1) (v := nI 0) (hz_dec kX12_block 1 rfl) (by decide) ?_
  refine hz_puti (pc := 2) (hz_dec kX12_block 2 rfl) fo_X12_302 ft_X12_0 hO h8 (by omega) (by rw [hF.1]; decide) ?_
  have hf1 : mfr B [0, 89] [] M (va_up M B (.inr (12, (List.set fs 0 (.int (nI 0)))))) := (mfr.rf ⟨fs, hO, hF⟩).upO (k := 0) hO hF rfl rfl
  have hR1 : hmR (va_up M B (.inr (12, (List.set fs 0 (.int (nI 0)))))) z B H := hR.m0 hf1 hE0.upO ((fdB_of (va_up_self _ _ _) 89).trans ((List.getElem?_set_ne (by decide)).trans ((fdB_of hO 89).symm.trans x8)))
  generalize (va_up M B (.inr (12, (List.set fs 0 (.int (nI 0)))))) = M1 at *
  obtain ⟨hk1, hE1, ⟨n1, d1, q1⟩, hNd1, a51, a61, a71, a81⟩ := id hR1
  obtain ⟨⟨fs1, hO1, hF1⟩, -, -, -, -⟩ := id hk1
  have h0 : mdN M1 B v N := by have q := hNd1 v hv; rw [hN] at q; exact q
  have hv6 : v < 6 := by omega
  have h01 : mnS M1 B v 1 N.1 (pvI (ksF N.1)) (ksP N.1) := by have q := h0.1; rw [hup] at q; exact q
  have h02 : orX (fA M1 B) v (mkO (ksL N.1)) := by have q := h0.2.1; rw [hup] at q; exact q
  obtain ⟨p1, p2, p3, p4, ⟨p5a, p5b, p5c⟩, p6, p7, p9⟩ := id h01
  have hbp := hI.1.p hI.2.1
  obtain ⟨b1, b2, b3, b4, b5, b6, b7, b8⟩ := id hbp
  refine hz_aloadn (pc := 5) 0 (hz_dec kX12_block 3 rfl) rfl ?_
  refine hz_iloadn (pc := 6) 1 (hz_dec kX12_block 4 rfl) rfl ?_
  refine hz_xV (pc := 7) (a := B) (As := [.int (nI v)]) (st := []) (hz_dec kX12_block 5 rfl) co_X12_692 im_X12_stateOf se_X12_stateOf rfl hO1 h8 (by omega) (c_st hnn hR1 hv) rfl (by decide) ⟨Nat.le_refl _, Nat.le_refl _⟩ (Nat.le_of_ble_eq_true rfl) rfl ?_
  refine hz_eqi (pc := 10) eSt ?_
  refine hz_istore (pc := 10) (i := 4) (lo2 := [(4, .int (nI 0)), (0, .ref B), (1, .int (nI v)), (2, .int (nI k)), (3, .int (nI 6))]) (hz_dec kX12_block 6 rfl) (by decide) rfl ?_
  refine hz_iload (pc := 12) 0 (hz_dec kX12_block 7 rfl) rfl ?_
  refine hz_iconst (pc := 14) (v := (-1)) (hz_dec kX12_block 8 rfl) (by decide) ?_
  refine hz_icmp_eq (pc := 15) (tgt := 28) (hz_dec kX12_block 9 rfl) (by decide) (fun hq1 => ?_) (fun hq1 => ?_)
  · skip
    exact absurd hq1 (by decide)
  · skip
    refine hz_iloadn (pc := 18) 4 (hz_dec kX12_block 10 rfl) rfl ?_
    refine hz_z_lt (pc := 19) (tgt := 28) (hz_dec kX12_block 11 rfl) (by decide) (by omega) ?_
    refine hz_iloadn (pc := 22) 4 (hz_dec kX12_block 12 rfl) rfl ?_
    refine hz_bipush (pc := 23) (v := nI 6) (hz_dec kX12_block 13 rfl) (by decide) ?_
    refine hz_n_le (pc := 25) (tgt := 30) (hz_dec kX12_block 14 rfl) (by decide) (by omega) (by omega) (fun hq3 => ?_) (fun hq3 => ?_)
    · skip
      refine hz_iload (pc := 30) 0 (hz_dec kX12_block 17 rfl) rfl ?_
      refine hz_bipush (pc := 32) (v := (-2)) (hz_dec kX12_block 18 rfl) (by decide) ?_
      refine hz_icmp_ne (pc := 34) (tgt := 40) (hz_dec kX12_block 19 rfl) (by decide) (fun hq4 => ?_) (fun hq4 => ?_)
      · skip
        refine hz_iloadn (pc := 40) 3 (hz_dec kX12_block 22 rfl) rfl ?_
        refine hz_z_lt (pc := 41) (tgt := 54) (hz_dec kX12_block 23 rfl) (by decide) (by omega) ?_
        refine hz_iloadn (pc := 44) 3 (hz_dec kX12_block 24 rfl) rfl ?_
        refine hz_aloadn (pc := 45) 1 (hz_dec kX12_block 25 rfl) rfl ?_
        refine hz_get (pc := 46) (v := .ref (B + 20)) (hz_dec kX12_block 26 rfl) fo_X12_71 hO1 h8 (by omega) (hF1.2 22 (by decide) (by decide)) ?_
        refine hz_iloadn (pc := 49) 2 (hz_dec kX12_block 27 rfl) rfl ?_
        refine hz_iald (pc := 50) (j := v) (hz_dec kX12_block 28 rfl) hE1.a20 (by omega) (by omega) rfl (by omega) (by decide) ?_
        refine hz_eqi (pc := 51) p5b.1 ?_
        refine hz_n_lt (pc := 51) (tgt := 56) (hz_dec kX12_block 29 rfl) (by decide) (by omega) (by omega) (fun h3 => ?_) (fun h3 => ?_)
        · skip
          refine hz_iloadn (pc := 56) 2 (hz_dec kX12_block 32 rfl) rfl ?_
          refine hz_iloadn (pc := 57) 3 (hz_dec kX12_block 33 rfl) rfl ?_
          refine hz_xS (pc := 58) (As := [.int (nI v), .int (nI k)]) (st := []) (hz_dec kX12_block 34 rfl) co_X12_419 sc_X12_at0 (c_at0 (v := v) (y := k)) rfl (by decide) ⟨Nat.le_refl _, Nat.le_refl _⟩ (Nat.le_of_ble_eq_true rfl) rfl ?_
          refine hz_istore (pc := 61) (i := 5) (lo2 := [(5, .int (nI (128 * v + k))), (4, .int (nI 0)), (0, .ref B), (1, .int (nI v)), (2, .int (nI k)), (3, .int (nI 6))]) (hz_dec kX12_block 35 rfl) (by decide) rfl ?_
          refine hz_iloadn (pc := 63) 5 (hz_dec kX12_block 36 rfl) rfl ?_
          refine hz_swOut (pc := 64) (tgt := 167) (hz_dec kX12_block 37 rfl) (Or.inr (by decide)) (by decide) ?_
          refine hz_aloadn (pc := 167) 2 (hz_dec kX12_block 75 rfl) rfl ?_
          refine hz_iloadn (pc := 168) 3 (hz_dec kX12_block 76 rfl) rfl ?_
          refine hz_iloadn (pc := 169) 4 (hz_dec kX12_block 77 rfl) rfl ?_
          refine hz_aloadn (pc := 170) 2 (hz_dec kX12_block 78 rfl) rfl ?_
          refine hz_get (pc := 171) (v := .ref (B + 21)) (hz_dec kX12_block 79 rfl) fo_X12_74 hO1 h8 (by omega) (hF1.2 23 (by decide) (by decide)) ?_
          refine hz_iloadn (pc := 174) 3 (hz_dec kX12_block 80 rfl) rfl ?_
          refine hz_iald (pc := 175) (j := v) (hz_dec kX12_block 81 rfl) hE1.a21 (by omega) (by omega) rfl (by omega) (by decide) ?_
          refine hz_eqi (pc := 176) p5b.2.1 ?_
          refine hz_xV (pc := 176) (a := B) (As := [.int (nI v), .int (nI k), .int (nI (ksT N.1))]) (st := []) (hz_dec kX12_block 82 rfl) co_X12_571 im_X12_isOnChain se_X12_isOnChain rfl hO1 h8 (by omega) (c_mOn hk1.1 hE1 h8 hz hv6 (by omega) (by omega) p5a b3 hI.2.1 hk) rfl (by decide) ⟨Nat.le_refl _, Nat.le_refl _⟩ (Nat.le_of_ble_eq_true rfl) rfl ?_
          refine hz_if_eq (pc := 179) (tgt := 186) (hz_dec kX12_block 83 rfl) (by decide) (fun h6 => ?_) (fun h6 => ?_)
          · skip
            refine hz_iconst (pc := 186) (v := nI 0) (hz_dec kX12_block 86 rfl) (by decide) ?_
            exact hz_iret (pc := 187) (hz_dec kX12_block 87 rfl) rfl ⟨by rw [h6]; rfl, rfl, hf1.S rfl, hR1⟩
          · skip
            refine hz_iconst (pc := 182) (v := nI 1) (hz_dec kX12_block 84 rfl) (by decide) ?_
            refine hz_goto (pc := 183) (tgt := 187) (hz_dec kX12_block 85 rfl) (by decide) ?_
            exact hz_iret (pc := 187) (hz_dec kX12_block 87 rfl) rfl ⟨by rw [hz_b1 h6]; rfl, rfl, hf1.S rfl, hR1⟩
        · skip
          exact absurd hk (by omega)
      · skip
        exact absurd hq4 (by decide)
    · skip
      exact absurd hq3 (by decide)
