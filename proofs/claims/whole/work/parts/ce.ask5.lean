/-! pooled, balance, take -/
theorem wh_ne {w : Int32} {n k : Nat} (h : w < 0 ∨ ¬ w ≤ nI n) (hk : k ≤ n) (hn : n < 2 ^ 31) : ¬ w = nI k := by
  intro c
  have q := wh_out h hn
  rw [c, nI_toInt (by omega)] at q
  omega
/-- the first i coins of an address -/
def blS (cs : List co_C) (ad : Int64) : Nat → Int64
  | 0 => 0
  | i + 1 => if (coL cs i).2.2.2.1 = ad then blS cs ad i + (coL cs i).2.2.1 else blS cs ad i
set_option maxHeartbeats 4000000 in
set_option maxRecDepth 100000 in
theorem c_pooledN {κ : hz_C} {z : Nat} {M : hz_M} {H : ho_H} (hz : 63 + 34 * (hoN H).length ≤ z) (hnn : (hoN H).length ≤ 6) (hT4 : (hoT H).length ≤ 4000) {ll : Nat} {fr kn : Int32} (hR : hcR M z H ll fr kn) {v : Int32} {i wh : Int32} (hv : v < 0 ∨ ¬ v < nI (hoN H).length) : hz_Mt κ xX11_pooled 1 0 0 [.ref 8, .int v, .int i, .int wh] z M (hcP M z H (.long 0) H) := by
  refine hz_ent (lo := [(0, .ref 8), (1, .int v), (2, .int i), (3, .int wh)]) (by decide) (Nat.le_of_ble_eq_true rfl) rfl ?_
  have hH := hR.1
  have hNs := hR.2.1
  obtain ⟨hO, hQ, hD⟩ := id hR.2.2.2.2.1
  obtain ⟨g53, h53⟩ := hR.2.2.2.2.2.1
  have hJ := hR.2.2.2.1
  obtain ⟨g56, h56, hT56⟩ := hR.2.2.2.2.2.2.2.2.2.1
  have hdf := hR.2.2.2.2.2.2.2.2.2.2
  have hck : ck_k M z := hJ.2.2.2.2.2.2.2.1
  have hcs : ck_s M := hJ.2.2.2.2.2.2.2.2.1
  have hz63 : 63 ≤ z := by omega
  refine hz_aloadn (pc := 0) 0 (hz_dec kX11_pooled 0 rfl) rfl ?_
  refine hz_iloadn (pc := 1) 1 (hz_dec kX11_pooled 1 rfl) rfl ?_
  refine hz_xV (pc := 2) (a := 8) (As := [.int v]) (st := []) (hz_dec kX11_pooled 2 rfl) co_X11_162 im_X11_nodeOf se_X11_nodeOf rfl hH (by omega) (by omega) (c_nOfN hz63 hH hnn hNs hv) rfl (by decide) ⟨Nat.le_refl _, Nat.le_refl _⟩ (Nat.le_of_ble_eq_true rfl) rfl ?_
  refine hz_astoreN (pc := 5) (i := 4) (lo2 := [(4, .null), (0, .ref 8), (1, .int v), (2, .int i), (3, .int wh)]) (hz_dec kX11_pooled 3 rfl) (by decide) rfl ?_
  refine hz_aloadN (pc := 7) 0 (hz_dec kX11_pooled 4 rfl) rfl ?_
  refine hz_ifnullN (pc := 9) (tgt := 36) (hz_dec kX11_pooled 5 rfl) (by decide) ?_
  refine hz_lconst (pc := 36) (v := 0) (hz_dec kX11_pooled 16 rfl) (by decide) ?_
  exact hz_lret (pc := 37) (hz_dec kX11_pooled 17 rfl) rfl (hcP.no hR _)
set_option maxHeartbeats 4000000 in
set_option maxRecDepth 100000 in
theorem c_rpooledN {κ : hz_C} {z B : Nat} {M : hz_M} {H : ho_H} (hnn : (hoN H).length ≤ 6) (hT4 : (hoT H).length ≤ 4000) (hR : hmR M z B H) {v : Int32} {i wh : Int32} (hv : v < 0 ∨ ¬ v < nI (hoN H).length) : hz_Mt κ xX12_pooled 1 0 0 [.ref B, .int v, .int i, .int wh] z M (hmP M z B (.long 0) H) := by
  refine hz_ent (lo := [(0, .ref B), (1, .int v), (2, .int i), (3, .int wh)]) (by decide) (Nat.le_of_ble_eq_true rfl) rfl ?_
  obtain ⟨hk0_, hE0, ⟨m1, m2, m3⟩, hNd, a5, a6, a7, a8⟩ := id hR
  obtain ⟨⟨fs, hO, hF⟩, -, -, h8, hz⟩ := id hk0_
  obtain ⟨x1, x3, x4, x5, x6, x7, x8⟩ := id m3
  refine hz_aloadn (pc := 0) 0 (hz_dec kX12_pooled 0 rfl) rfl ?_
  refine hz_iconst (pc := 1) (v := nI 0) (hz_dec kX12_pooled 1 rfl) (by decide) ?_
  refine hz_puti (pc := 2) (hz_dec kX12_pooled 2 rfl) fo_X12_302 ft_X12_0 hO h8 (by omega) (by rw [hF.1]; decide) ?_
  have hf1 : mfr B [0, 89] [] M (va_up M B (.inr (12, (List.set fs 0 (.int (nI 0)))))) := (mfr.rf ⟨fs, hO, hF⟩).upO (k := 0) hO hF rfl rfl
  have hR1 : hmR (va_up M B (.inr (12, (List.set fs 0 (.int (nI 0)))))) z B H := hR.m0 hf1 hE0.upO ((fdB_of (va_up_self _ _ _) 89).trans ((List.getElem?_set_ne (by decide)).trans ((fdB_of hO 89).symm.trans x8)))
  generalize (va_up M B (.inr (12, (List.set fs 0 (.int (nI 0)))))) = M1 at *
  obtain ⟨hk1, hE1, ⟨n1, d1, q1⟩, hNd1, a51, a61, a71, a81⟩ := id hR1
  obtain ⟨⟨fs1, hO1, hF1⟩, -, -, -, -⟩ := id hk1
  refine hz_aloadn (pc := 5) 0 (hz_dec kX12_pooled 3 rfl) rfl ?_
  refine hz_iloadn (pc := 6) 1 (hz_dec kX12_pooled 4 rfl) rfl ?_
  refine hz_xV (pc := 7) (a := B) (As := [.int v]) (st := []) (hz_dec kX12_pooled 5 rfl) co_X12_692 im_X12_stateOf se_X12_stateOf rfl hO1 h8 (by omega) (c_stN hnn hR1 hv) rfl (by decide) ⟨Nat.le_refl _, Nat.le_refl _⟩ (Nat.le_of_ble_eq_true rfl) rfl ?_
  refine hz_if_ne (pc := 10) (tgt := 27) (hz_dec kX12_pooled 6 rfl) (by decide) (fun hq1 => ?_) (fun hq1 => ?_)
  · skip
    refine hz_lconst (pc := 27) (v := 0) (hz_dec kX12_pooled 15 rfl) (by decide) ?_
    exact hz_lret (pc := 28) (hz_dec kX12_pooled 16 rfl) rfl ⟨rfl, rfl, hf1.S rfl, hR1⟩
  · skip
    exact absurd hq1 (by decide)
set_option maxHeartbeats 4000000 in
set_option maxRecDepth 100000 in
theorem c_pooledD {κ : hz_C} {z : Nat} {M : hz_M} {H : ho_H} (hz : 63 + 34 * (hoN H).length ≤ z) (hnn : (hoN H).length ≤ 6) (hT4 : (hoT H).length ≤ 4000) {ll : Nat} {fr kn : Int32} (hR : hcR M z H ll fr kn) {v : Nat} (hv : v < (hoN H).length) {N : nd_N} (hN : ndL (hoN H) v = N) {i wh : Int32} (hup : N.2.1 = false) : hz_Mt κ xX11_pooled 1 0 0 [.ref 8, .int (nI v), .int i, .int wh] z M (hcP M z H (.long 0) H) := by
  refine hz_ent (lo := [(0, .ref 8), (1, .int (nI v)), (2, .int i), (3, .int wh)]) (by decide) (Nat.le_of_ble_eq_true rfl) rfl ?_
  have hH := hR.1
  have hNs := hR.2.1
  obtain ⟨hO, hQ, hD⟩ := id hR.2.2.2.2.1
  obtain ⟨g53, h53⟩ := hR.2.2.2.2.2.1
  have hJ := hR.2.2.2.1
  obtain ⟨g56, h56, hT56⟩ := hR.2.2.2.2.2.2.2.2.2.1
  have hdf := hR.2.2.2.2.2.2.2.2.2.2
  have hck : ck_k M z := hJ.2.2.2.2.2.2.2.1
  have hcs : ck_s M := hJ.2.2.2.2.2.2.2.2.1
  have hz63 : 63 ≤ z := by omega
  have hK := hR.2.2.1 v hv
  rw [hN] at hK
  obtain ⟨hn, ⟨gd, hgd, hgD⟩, hT, hC, hP, hL⟩ := id hK
  have hn : M (63 + 34 * v) = ndO (63 + 34 * v) (nI v) (nI 0) (nI (ksN N.1)) (pvI (ksF N.1)) N.2.2.1 N.2.2.2 := by rw [hup] at hn; exact hn
  refine hz_aloadn (pc := 0) 0 (hz_dec kX11_pooled 0 rfl) rfl ?_
  refine hz_iloadn (pc := 1) 1 (hz_dec kX11_pooled 1 rfl) rfl ?_
  refine hz_xV (pc := 2) (a := 8) (As := [.int (nI v)]) (st := []) (hz_dec kX11_pooled 2 rfl) co_X11_162 im_X11_nodeOf se_X11_nodeOf rfl hH (by omega) (by omega) (c_nOf hz63 hH hnn hNs (b := v) hv) rfl (by decide) ⟨Nat.le_refl _, Nat.le_refl _⟩ (Nat.le_of_ble_eq_true rfl) rfl ?_
  refine hz_astore (pc := 5) (i := 4) (lo2 := [(4, .ref (63 + 34 * v)), (0, .ref 8), (1, .int (nI v)), (2, .int i), (3, .int wh)]) (hz_dec kX11_pooled 3 rfl) (by decide) rfl ?_
  refine hz_aload (pc := 7) 0 (hz_dec kX11_pooled 4 rfl) rfl ?_
  refine hz_ifnull (pc := 9) (hz_dec kX11_pooled 5 rfl) ?_
  refine hz_aload (pc := 12) 0 (hz_dec kX11_pooled 6 rfl) rfl ?_
  refine hz_get (pc := 14) (hz_dec kX11_pooled 7 rfl) fo_X11_166 hn (by omega) (by omega) rfl ?_
  refine hz_z_eq (pc := 17) (tgt := 36) (hz_dec kX11_pooled 8 rfl) (by decide) (by omega) (fun hq1 => ?_) (fun hq1 => ?_)
  · skip
    refine hz_lconst (pc := 36) (v := 0) (hz_dec kX11_pooled 16 rfl) (by decide) ?_
    exact hz_lret (pc := 37) (hz_dec kX11_pooled 17 rfl) rfl (hcP.no hR _)
  · skip
    exact absurd hq1 (by decide)
set_option maxHeartbeats 4000000 in
set_option maxRecDepth 100000 in
theorem c_rpooledD {κ : hz_C} {z B : Nat} {M : hz_M} {H : ho_H} (hnn : (hoN H).length ≤ 6) (hT4 : (hoT H).length ≤ 4000) (hR : hmR M z B H) {v : Nat} (hv : v < (hoN H).length) {N : nd_N} (hN : ndL (hoN H) v = N) {i wh : Int32} (hup : N.2.1 = false) : hz_Mt κ xX12_pooled 1 0 0 [.ref B, .int (nI v), .int i, .int wh] z M (hmP M z B (.long 0) H) := by
  refine hz_ent (lo := [(0, .ref B), (1, .int (nI v)), (2, .int i), (3, .int wh)]) (by decide) (Nat.le_of_ble_eq_true rfl) rfl ?_
  obtain ⟨hk0_, hE0, ⟨m1, m2, m3⟩, hNd, a5, a6, a7, a8⟩ := id hR
  obtain ⟨⟨fs, hO, hF⟩, -, -, h8, hz⟩ := id hk0_
  obtain ⟨x1, x3, x4, x5, x6, x7, x8⟩ := id m3
  have eSt : stI (ndL (hoN H) v).2.1 = (-2) := by rw [hN, hup]; rfl
  refine hz_aloadn (pc := 0) 0 (hz_dec kX12_pooled 0 rfl) rfl ?_
  refine hz_iconst (pc := 1) (v := nI 0) (hz_dec kX12_pooled 1 rfl) (by decide) ?_
  refine hz_puti (pc := 2) (hz_dec kX12_pooled 2 rfl) fo_X12_302 ft_X12_0 hO h8 (by omega) (by rw [hF.1]; decide) ?_
  have hf1 : mfr B [0, 89] [] M (va_up M B (.inr (12, (List.set fs 0 (.int (nI 0)))))) := (mfr.rf ⟨fs, hO, hF⟩).upO (k := 0) hO hF rfl rfl
  have hR1 : hmR (va_up M B (.inr (12, (List.set fs 0 (.int (nI 0)))))) z B H := hR.m0 hf1 hE0.upO ((fdB_of (va_up_self _ _ _) 89).trans ((List.getElem?_set_ne (by decide)).trans ((fdB_of hO 89).symm.trans x8)))
  generalize (va_up M B (.inr (12, (List.set fs 0 (.int (nI 0)))))) = M1 at *
  obtain ⟨hk1, hE1, ⟨n1, d1, q1⟩, hNd1, a51, a61, a71, a81⟩ := id hR1
  obtain ⟨⟨fs1, hO1, hF1⟩, -, -, -, -⟩ := id hk1
  refine hz_aloadn (pc := 5) 0 (hz_dec kX12_pooled 3 rfl) rfl ?_
  refine hz_iloadn (pc := 6) 1 (hz_dec kX12_pooled 4 rfl) rfl ?_
  refine hz_xV (pc := 7) (a := B) (As := [.int (nI v)]) (st := []) (hz_dec kX12_pooled 5 rfl) co_X12_692 im_X12_stateOf se_X12_stateOf rfl hO1 h8 (by omega) (c_st hnn hR1 hv) rfl (by decide) ⟨Nat.le_refl _, Nat.le_refl _⟩ (Nat.le_of_ble_eq_true rfl) rfl ?_
  refine hz_eqi (pc := 10) eSt ?_
  refine hz_if_ne (pc := 10) (tgt := 27) (hz_dec kX12_pooled 6 rfl) (by decide) (fun hq1 => ?_) (fun hq1 => ?_)
  · skip
    refine hz_lconst (pc := 27) (v := 0) (hz_dec kX12_pooled 15 rfl) (by decide) ?_
    exact hz_lret (pc := 28) (hz_dec kX12_pooled 16 rfl) rfl ⟨rfl, rfl, hf1.S rfl, hR1⟩
  · skip
    exact absurd hq1 (by decide)
set_option maxHeartbeats 4000000 in
set_option maxRecDepth 100000 in
theorem c_pooledI {κ : hz_C} {z : Nat} {M : hz_M} {H : ho_H} (hz : 63 + 34 * (hoN H).length ≤ z) (hnn : (hoN H).length ≤ 6) (hT4 : (hoT H).length ≤ 4000) {ll : Nat} {fr kn : Int32} (hR : hcR M z H ll fr kn) {v : Nat} (hv : v < (hoN H).length) {N : nd_N} (hN : ndL (hoN H) v = N) {i wh : Int32} (hup : N.2.1 = true) (hI : ksI N.1) (hi : i < 0 ∨ ¬ i < nI (ksP N.1).length) : hz_Mt κ xX11_pooled 1 0 0 [.ref 8, .int (nI v), .int i, .int wh] z M (hcP M z H (.long 0) H) := by
  refine hz_ent (lo := [(0, .ref 8), (1, .int (nI v)), (2, .int i), (3, .int wh)]) (by decide) (Nat.le_of_ble_eq_true rfl) rfl ?_
  have hH := hR.1
  have hNs := hR.2.1
  obtain ⟨hO, hQ, hD⟩ := id hR.2.2.2.2.1
  obtain ⟨g53, h53⟩ := hR.2.2.2.2.2.1
  have hJ := hR.2.2.2.1
  obtain ⟨g56, h56, hT56⟩ := hR.2.2.2.2.2.2.2.2.2.1
  have hdf := hR.2.2.2.2.2.2.2.2.2.2
  have hck : ck_k M z := hJ.2.2.2.2.2.2.2.1
  have hcs : ck_s M := hJ.2.2.2.2.2.2.2.2.1
  have hz63 : 63 ≤ z := by omega
  have hK := hR.2.2.1 v hv
  rw [hN] at hK
  obtain ⟨hn, ⟨gd, hgd, hgD⟩, hT, hC, hP, hL⟩ := id hK
  have hn : M (63 + 34 * v) = ndO (63 + 34 * v) (nI v) (nI 1) (nI (ksN N.1)) (pvI (ksF N.1)) N.2.2.1 N.2.2.2 := by rw [hup] at hn; exact hn
  have hpO := hP.1.1
  rw [List.length_map] at hpO
  obtain ⟨fB, gB, hfB, hgB, hxB⟩ := id hP.1.2.2.2
  obtain ⟨ff, hff, hfx⟩ := id hP.2
  have hp16 : (ksP N.1).length ≤ 16 := by have q := hP.1.2.1; rw [List.length_map] at q; exact q
  refine hz_aloadn (pc := 0) 0 (hz_dec kX11_pooled 0 rfl) rfl ?_
  refine hz_iloadn (pc := 1) 1 (hz_dec kX11_pooled 1 rfl) rfl ?_
  refine hz_xV (pc := 2) (a := 8) (As := [.int (nI v)]) (st := []) (hz_dec kX11_pooled 2 rfl) co_X11_162 im_X11_nodeOf se_X11_nodeOf rfl hH (by omega) (by omega) (c_nOf hz63 hH hnn hNs (b := v) hv) rfl (by decide) ⟨Nat.le_refl _, Nat.le_refl _⟩ (Nat.le_of_ble_eq_true rfl) rfl ?_
  refine hz_astore (pc := 5) (i := 4) (lo2 := [(4, .ref (63 + 34 * v)), (0, .ref 8), (1, .int (nI v)), (2, .int i), (3, .int wh)]) (hz_dec kX11_pooled 3 rfl) (by decide) rfl ?_
  refine hz_aload (pc := 7) 0 (hz_dec kX11_pooled 4 rfl) rfl ?_
  refine hz_ifnull (pc := 9) (hz_dec kX11_pooled 5 rfl) ?_
  refine hz_aload (pc := 12) 0 (hz_dec kX11_pooled 6 rfl) rfl ?_
  refine hz_get (pc := 14) (hz_dec kX11_pooled 7 rfl) fo_X11_166 hn (by omega) (by omega) rfl ?_
  refine hz_z_eq (pc := 17) (tgt := 36) (hz_dec kX11_pooled 8 rfl) (by decide) (by omega) (fun hq1 => ?_) (fun hq1 => ?_)
  · skip
    exact absurd hq1 (by decide)
  · skip
    refine hz_iloadn (pc := 20) 3 (hz_dec kX11_pooled 9 rfl) rfl ?_
    refine hz_if_lt (pc := 21) (tgt := 36) (hz_dec kX11_pooled 10 rfl) (by decide) (fun h1 => ?_) (fun h1 => ?_)
    · skip
      refine hz_lconst (pc := 36) (v := 0) (hz_dec kX11_pooled 16 rfl) (by decide) ?_
      exact hz_lret (pc := 37) (hz_dec kX11_pooled 17 rfl) rfl (hcP.no hR _)
    · skip
      refine hz_iloadn (pc := 24) 3 (hz_dec kX11_pooled 11 rfl) rfl ?_
      refine hz_aload (pc := 25) 0 (hz_dec kX11_pooled 12 rfl) rfl ?_
      refine hz_get (pc := 27) (hz_dec kX11_pooled 13 rfl) fo_X11_257 hn (by omega) (by omega) rfl ?_
      refine hz_get (pc := 30) (hz_dec kX11_pooled 14 rfl) fo_X11_220 hpO (by omega) (by omega) rfl ?_
      refine hz_icmp_lt (pc := 33) (tgt := 38) (hz_dec kX11_pooled 15 rfl) (by decide) (fun h2 => ?_) (fun h2 => ?_)
      · skip
        exact absurd h2 (hi.resolve_left h1)
      · skip
        refine hz_lconst (pc := 36) (v := 0) (hz_dec kX11_pooled 16 rfl) (by decide) ?_
        exact hz_lret (pc := 37) (hz_dec kX11_pooled 17 rfl) rfl (hcP.no hR _)
set_option maxHeartbeats 4000000 in
set_option maxRecDepth 100000 in
theorem c_rpooledI {κ : hz_C} {z B : Nat} {M : hz_M} {H : ho_H} (hnn : (hoN H).length ≤ 6) (hT4 : (hoT H).length ≤ 4000) (hR : hmR M z B H) {v : Nat} (hv : v < (hoN H).length) {N : nd_N} (hN : ndL (hoN H) v = N) {i wh : Int32} (hup : N.2.1 = true) (hI : ksI N.1) (hi : i < 0 ∨ ¬ i < nI (ksP N.1).length) : hz_Mt κ xX12_pooled 1 0 0 [.ref B, .int (nI v), .int i, .int wh] z M (hmP M z B (.long 0) H) := by
  refine hz_ent (lo := [(0, .ref B), (1, .int (nI v)), (2, .int i), (3, .int wh)]) (by decide) (Nat.le_of_ble_eq_true rfl) rfl ?_
  obtain ⟨hk0_, hE0, ⟨m1, m2, m3⟩, hNd, a5, a6, a7, a8⟩ := id hR
  obtain ⟨⟨fs, hO, hF⟩, -, -, h8, hz⟩ := id hk0_
  obtain ⟨x1, x3, x4, x5, x6, x7, x8⟩ := id m3
  have eSt : stI (ndL (hoN H) v).2.1 = nI 0 := by rw [hN, hup]; rfl
  refine hz_aloadn (pc := 0) 0 (hz_dec kX12_pooled 0 rfl) rfl ?_
  refine hz_iconst (pc := 1) (v := nI 0) (hz_dec kX12_pooled 1 rfl) (by decide) ?_
  refine hz_puti (pc := 2) (hz_dec kX12_pooled 2 rfl) fo_X12_302 ft_X12_0 hO h8 (by omega) (by rw [hF.1]; decide) ?_
  have hf1 : mfr B [0, 89] [] M (va_up M B (.inr (12, (List.set fs 0 (.int (nI 0)))))) := (mfr.rf ⟨fs, hO, hF⟩).upO (k := 0) hO hF rfl rfl
  have hR1 : hmR (va_up M B (.inr (12, (List.set fs 0 (.int (nI 0)))))) z B H := hR.m0 hf1 hE0.upO ((fdB_of (va_up_self _ _ _) 89).trans ((List.getElem?_set_ne (by decide)).trans ((fdB_of hO 89).symm.trans x8)))
  generalize (va_up M B (.inr (12, (List.set fs 0 (.int (nI 0)))))) = M1 at *
  obtain ⟨hk1, hE1, ⟨n1, d1, q1⟩, hNd1, a51, a61, a71, a81⟩ := id hR1
  obtain ⟨⟨fs1, hO1, hF1⟩, -, -, -, -⟩ := id hk1
  have h0 : mdN M1 B v N := by have q := hNd1 v hv; rw [hN] at q; exact q
  have hv6 : v < 6 := by omega
  have h01 : mnS M1 B v 1 N.1 (pvI (ksF N.1)) (ksP N.1) := by have q := h0.1; rw [hup] at q; exact q
  have h02 : orX (fA M1 B) v (mkO (ksL N.1)) := by have q := h0.2.1; rw [hup] at q; exact q
  obtain ⟨p1, p2, p3, p4, ⟨p5a, p5b, p5c⟩, p6, p7, p9⟩ := id h01
  have hbp := hI.1.p hI.2.1
  obtain ⟨b1, b2, b3, b4, b5, b6, b7, b8⟩ := id hbp
  refine hz_aloadn (pc := 5) 0 (hz_dec kX12_pooled 3 rfl) rfl ?_
  refine hz_iloadn (pc := 6) 1 (hz_dec kX12_pooled 4 rfl) rfl ?_
  refine hz_xV (pc := 7) (a := B) (As := [.int (nI v)]) (st := []) (hz_dec kX12_pooled 5 rfl) co_X12_692 im_X12_stateOf se_X12_stateOf rfl hO1 h8 (by omega) (c_st hnn hR1 hv) rfl (by decide) ⟨Nat.le_refl _, Nat.le_refl _⟩ (Nat.le_of_ble_eq_true rfl) rfl ?_
  refine hz_eqi (pc := 10) eSt ?_
  refine hz_z_ne (pc := 10) (tgt := 27) (hz_dec kX12_pooled 6 rfl) (by decide) (by omega) (fun hq1 => ?_) (fun hq1 => ?_)
  · skip
    exact absurd hq1 (by decide)
  · skip
    refine hz_iloadn (pc := 13) 2 (hz_dec kX12_pooled 7 rfl) rfl ?_
    refine hz_if_lt (pc := 14) (tgt := 27) (hz_dec kX12_pooled 8 rfl) (by decide) (fun h1 => ?_) (fun h1 => ?_)
    · skip
      refine hz_lconst (pc := 27) (v := 0) (hz_dec kX12_pooled 15 rfl) (by decide) ?_
      exact hz_lret (pc := 28) (hz_dec kX12_pooled 16 rfl) rfl ⟨rfl, rfl, hf1.S rfl, hR1⟩
    · skip
      refine hz_iloadn (pc := 17) 2 (hz_dec kX12_pooled 9 rfl) rfl ?_
      refine hz_aloadn (pc := 18) 0 (hz_dec kX12_pooled 10 rfl) rfl ?_
      refine hz_get (pc := 19) (v := .ref (B + 58)) (hz_dec kX12_pooled 11 rfl) fo_X12_193 hO1 h8 (by omega) (hF1.2 67 (by decide) (by decide)) ?_
      refine hz_iloadn (pc := 22) 1 (hz_dec kX12_pooled 12 rfl) rfl ?_
      refine hz_iald (pc := 23) (j := v) (hz_dec kX12_pooled 13 rfl) hE1.a58 (by omega) (by omega) rfl (by omega) (by decide) ?_
      refine hz_eqi (pc := 24) p6.1 ?_
      refine hz_icmp_lt (pc := 24) (tgt := 29) (hz_dec kX12_pooled 14 rfl) (by decide) (fun h2 => ?_) (fun h2 => ?_)
      · skip
        exact absurd h2 (hi.resolve_left h1)
      · skip
        refine hz_lconst (pc := 27) (v := 0) (hz_dec kX12_pooled 15 rfl) (by decide) ?_
        exact hz_lret (pc := 28) (hz_dec kX12_pooled 16 rfl) rfl ⟨rfl, rfl, hf1.S rfl, hR1⟩
set_option maxHeartbeats 4000000 in
set_option maxRecDepth 100000 in
theorem c_pooledW {κ : hz_C} {z : Nat} {M : hz_M} {H : ho_H} (hz : 63 + 34 * (hoN H).length ≤ z) (hnn : (hoN H).length ≤ 6) (hT4 : (hoT H).length ≤ 4000) {ll : Nat} {fr kn : Int32} (hR : hcR M z H ll fr kn) {v : Nat} (hv : v < (hoN H).length) {N : nd_N} (hN : ndL (hoN H) v = N) {i : Nat} {wh : Int32} (hup : N.2.1 = true) (hI : ksI N.1) (hi : i < (ksP N.1).length) (hw : wh < 0 ∨ ¬ wh ≤ nI 2) : hz_Mt κ xX11_pooled 1 0 0 [.ref 8, .int (nI v), .int (nI i), .int wh] z M (hcP M z H (.long 0) H) := by
  refine hz_ent (lo := [(0, .ref 8), (1, .int (nI v)), (2, .int (nI i)), (3, .int wh)]) (by decide) (Nat.le_of_ble_eq_true rfl) rfl ?_
  have hH := hR.1
  have hNs := hR.2.1
  obtain ⟨hO, hQ, hD⟩ := id hR.2.2.2.2.1
  obtain ⟨g53, h53⟩ := hR.2.2.2.2.2.1
  have hJ := hR.2.2.2.1
  obtain ⟨g56, h56, hT56⟩ := hR.2.2.2.2.2.2.2.2.2.1
  have hdf := hR.2.2.2.2.2.2.2.2.2.2
  have hck : ck_k M z := hJ.2.2.2.2.2.2.2.1
  have hcs : ck_s M := hJ.2.2.2.2.2.2.2.2.1
  have hz63 : 63 ≤ z := by omega
  have hK := hR.2.2.1 v hv
  rw [hN] at hK
  obtain ⟨hn, ⟨gd, hgd, hgD⟩, hT, hC, hP, hL⟩ := id hK
  have hn : M (63 + 34 * v) = ndO (63 + 34 * v) (nI v) (nI 1) (nI (ksN N.1)) (pvI (ksF N.1)) N.2.2.1 N.2.2.2 := by rw [hup] at hn; exact hn
  have hpO := hP.1.1
  rw [List.length_map] at hpO
  obtain ⟨fB, gB, hfB, hgB, hxB⟩ := id hP.1.2.2.2
  obtain ⟨ff, hff, hfx⟩ := id hP.2
  have hp16 : (ksP N.1).length ≤ 16 := by have q := hP.1.2.1; rw [List.length_map] at q; exact q
  have hw2 : wh.toInt < 0 ∨ 2 < wh.toInt := wh_out (n := 2) hw (by decide)
  refine hz_aloadn (pc := 0) 0 (hz_dec kX11_pooled 0 rfl) rfl ?_
  refine hz_iloadn (pc := 1) 1 (hz_dec kX11_pooled 1 rfl) rfl ?_
  refine hz_xV (pc := 2) (a := 8) (As := [.int (nI v)]) (st := []) (hz_dec kX11_pooled 2 rfl) co_X11_162 im_X11_nodeOf se_X11_nodeOf rfl hH (by omega) (by omega) (c_nOf hz63 hH hnn hNs (b := v) hv) rfl (by decide) ⟨Nat.le_refl _, Nat.le_refl _⟩ (Nat.le_of_ble_eq_true rfl) rfl ?_
  refine hz_astore (pc := 5) (i := 4) (lo2 := [(4, .ref (63 + 34 * v)), (0, .ref 8), (1, .int (nI v)), (2, .int (nI i)), (3, .int wh)]) (hz_dec kX11_pooled 3 rfl) (by decide) rfl ?_
  refine hz_aload (pc := 7) 0 (hz_dec kX11_pooled 4 rfl) rfl ?_
  refine hz_ifnull (pc := 9) (hz_dec kX11_pooled 5 rfl) ?_
  refine hz_aload (pc := 12) 0 (hz_dec kX11_pooled 6 rfl) rfl ?_
  refine hz_get (pc := 14) (hz_dec kX11_pooled 7 rfl) fo_X11_166 hn (by omega) (by omega) rfl ?_
  refine hz_z_eq (pc := 17) (tgt := 36) (hz_dec kX11_pooled 8 rfl) (by decide) (by omega) (fun hq1 => ?_) (fun hq1 => ?_)
  · skip
    exact absurd hq1 (by decide)
  · skip
    refine hz_iloadn (pc := 20) 3 (hz_dec kX11_pooled 9 rfl) rfl ?_
    refine hz_z_lt (pc := 21) (tgt := 36) (hz_dec kX11_pooled 10 rfl) (by decide) (by omega) ?_
    refine hz_iloadn (pc := 24) 3 (hz_dec kX11_pooled 11 rfl) rfl ?_
    refine hz_aload (pc := 25) 0 (hz_dec kX11_pooled 12 rfl) rfl ?_
    refine hz_get (pc := 27) (hz_dec kX11_pooled 13 rfl) fo_X11_257 hn (by omega) (by omega) rfl ?_
    refine hz_get (pc := 30) (hz_dec kX11_pooled 14 rfl) fo_X11_220 hpO (by omega) (by omega) rfl ?_
    refine hz_n_lt (pc := 33) (tgt := 38) (hz_dec kX11_pooled 15 rfl) (by decide) (by omega) (by omega) (fun h2 => ?_) (fun h2 => ?_)
    · skip
      refine hz_iloadn (pc := 38) 4 (hz_dec kX11_pooled 18 rfl) rfl ?_
      refine hz_swOut (pc := 39) (tgt := 126) (hz_dec kX11_pooled 19 rfl) hw2 (by decide) ?_
      refine hz_lconst (pc := 126) (v := 0) (hz_dec kX11_pooled 51 rfl) (by decide) ?_
      exact hz_lret (pc := 127) (hz_dec kX11_pooled 52 rfl) rfl (hcP.no hR _)
    · skip
      exact absurd hi (by omega)
set_option maxHeartbeats 4000000 in
set_option maxRecDepth 100000 in
theorem c_rpooledW {κ : hz_C} {z B : Nat} {M : hz_M} {H : ho_H} (hnn : (hoN H).length ≤ 6) (hT4 : (hoT H).length ≤ 4000) (hR : hmR M z B H) {v : Nat} (hv : v < (hoN H).length) {N : nd_N} (hN : ndL (hoN H) v = N) {i : Nat} {wh : Int32} (hup : N.2.1 = true) (hI : ksI N.1) (hi : i < (ksP N.1).length) (hw : wh < 0 ∨ ¬ wh ≤ nI 2) : hz_Mt κ xX12_pooled 1 0 0 [.ref B, .int (nI v), .int (nI i), .int wh] z M (hmP M z B (.long 0) H) := by
  refine hz_ent (lo := [(0, .ref B), (1, .int (nI v)), (2, .int (nI i)), (3, .int wh)]) (by decide) (Nat.le_of_ble_eq_true rfl) rfl ?_
  obtain ⟨hk0_, hE0, ⟨m1, m2, m3⟩, hNd, a5, a6, a7, a8⟩ := id hR
  obtain ⟨⟨fs, hO, hF⟩, -, -, h8, hz⟩ := id hk0_
  obtain ⟨x1, x3, x4, x5, x6, x7, x8⟩ := id m3
  have eSt : stI (ndL (hoN H) v).2.1 = nI 0 := by rw [hN, hup]; rfl
  refine hz_aloadn (pc := 0) 0 (hz_dec kX12_pooled 0 rfl) rfl ?_
  refine hz_iconst (pc := 1) (v := nI 0) (hz_dec kX12_pooled 1 rfl) (by decide) ?_
  refine hz_puti (pc := 2) (hz_dec kX12_pooled 2 rfl) fo_X12_302 ft_X12_0 hO h8 (by omega) (by rw [hF.1]; decide) ?_
  have hf1 : mfr B [0, 89] [] M (va_up M B (.inr (12, (List.set fs 0 (.int (nI 0)))))) := (mfr.rf ⟨fs, hO, hF⟩).upO (k := 0) hO hF rfl rfl
  have hR1 : hmR (va_up M B (.inr (12, (List.set fs 0 (.int (nI 0)))))) z B H := hR.m0 hf1 hE0.upO ((fdB_of (va_up_self _ _ _) 89).trans ((List.getElem?_set_ne (by decide)).trans ((fdB_of hO 89).symm.trans x8)))
  generalize (va_up M B (.inr (12, (List.set fs 0 (.int (nI 0)))))) = M1 at *
  obtain ⟨hk1, hE1, ⟨n1, d1, q1⟩, hNd1, a51, a61, a71, a81⟩ := id hR1
  obtain ⟨⟨fs1, hO1, hF1⟩, -, -, -, -⟩ := id hk1
  have h0 : mdN M1 B v N := by have q := hNd1 v hv; rw [hN] at q; exact q
  have hv6 : v < 6 := by omega
  have h01 : mnS M1 B v 1 N.1 (pvI (ksF N.1)) (ksP N.1) := by have q := h0.1; rw [hup] at q; exact q
  have h02 : orX (fA M1 B) v (mkO (ksL N.1)) := by have q := h0.2.1; rw [hup] at q; exact q
  obtain ⟨p1, p2, p3, p4, ⟨p5a, p5b, p5c⟩, p6, p7, p9⟩ := id h01
  have hbp := hI.1.p hI.2.1
  obtain ⟨b1, b2, b3, b4, b5, b6, b7, b8⟩ := id hbp
  have hp16 : (ksP N.1).length ≤ 16 := hI.2.2.2.1.1
  refine hz_aloadn (pc := 5) 0 (hz_dec kX12_pooled 3 rfl) rfl ?_
  refine hz_iloadn (pc := 6) 1 (hz_dec kX12_pooled 4 rfl) rfl ?_
  refine hz_xV (pc := 7) (a := B) (As := [.int (nI v)]) (st := []) (hz_dec kX12_pooled 5 rfl) co_X12_692 im_X12_stateOf se_X12_stateOf rfl hO1 h8 (by omega) (c_st hnn hR1 hv) rfl (by decide) ⟨Nat.le_refl _, Nat.le_refl _⟩ (Nat.le_of_ble_eq_true rfl) rfl ?_
  refine hz_eqi (pc := 10) eSt ?_
  refine hz_z_ne (pc := 10) (tgt := 27) (hz_dec kX12_pooled 6 rfl) (by decide) (by omega) (fun hq1 => ?_) (fun hq1 => ?_)
  · skip
    exact absurd hq1 (by decide)
  · skip
    refine hz_iloadn (pc := 13) 2 (hz_dec kX12_pooled 7 rfl) rfl ?_
    refine hz_z_lt (pc := 14) (tgt := 27) (hz_dec kX12_pooled 8 rfl) (by decide) (by omega) ?_
    refine hz_iloadn (pc := 17) 2 (hz_dec kX12_pooled 9 rfl) rfl ?_
    refine hz_aloadn (pc := 18) 0 (hz_dec kX12_pooled 10 rfl) rfl ?_
    refine hz_get (pc := 19) (v := .ref (B + 58)) (hz_dec kX12_pooled 11 rfl) fo_X12_193 hO1 h8 (by omega) (hF1.2 67 (by decide) (by decide)) ?_
    refine hz_iloadn (pc := 22) 1 (hz_dec kX12_pooled 12 rfl) rfl ?_
    refine hz_iald (pc := 23) (j := v) (hz_dec kX12_pooled 13 rfl) hE1.a58 (by omega) (by omega) rfl (by omega) (by decide) ?_
    refine hz_eqi (pc := 24) p6.1 ?_
    refine hz_n_lt (pc := 24) (tgt := 29) (hz_dec kX12_pooled 14 rfl) (by decide) (by omega) (by omega) (fun h2 => ?_) (fun h2 => ?_)
    · skip
      refine hz_bipush (pc := 29) (v := nI 16) (hz_dec kX12_pooled 17 rfl) (by decide) ?_
      refine hz_iloadn (pc := 31) 1 (hz_dec kX12_pooled 18 rfl) rfl ?_
      refine hz_mulN (pc := 32) (hz_dec kX12_pooled 19 rfl) ?_
      refine hz_iloadn (pc := 33) 2 (hz_dec kX12_pooled 20 rfl) rfl ?_
      refine hz_addN (pc := 34) (hz_dec kX12_pooled 21 rfl) ?_
      refine hz_istore (pc := 35) (i := 4) (lo2 := [(4, .int (nI ((16 * v) + i))), (0, .ref B), (1, .int (nI v)), (2, .int (nI i)), (3, .int wh)]) (hz_dec kX12_pooled 22 rfl) (by decide) rfl ?_
      refine hz_iloadn (pc := 37) 4 (hz_dec kX12_pooled 23 rfl) rfl ?_
      refine hz_if_ne (pc := 38) (tgt := 51) (hz_dec kX12_pooled 24 rfl) (by decide) (fun h3 => ?_) (fun h3 => ?_)
      · skip
        refine hz_iloadn (pc := 51) 4 (hz_dec kX12_pooled 30 rfl) rfl ?_
        refine hz_iconst (pc := 52) (v := nI 1) (hz_dec kX12_pooled 31 rfl) (by decide) ?_
        refine hz_icmp_ne (pc := 53) (tgt := 66) (hz_dec kX12_pooled 32 rfl) (by decide) (fun h4 => ?_) (fun h4 => ?_)
        · skip
          refine hz_iloadn (pc := 66) 4 (hz_dec kX12_pooled 38 rfl) rfl ?_
          refine hz_iconst (pc := 67) (v := nI 2) (hz_dec kX12_pooled 39 rfl) (by decide) ?_
          refine hz_icmp_ne (pc := 68) (tgt := 82) (hz_dec kX12_pooled 40 rfl) (by decide) (fun h5 => ?_) (fun h5 => ?_)
          · skip
            refine hz_lconst (pc := 82) (v := 0) (hz_dec kX12_pooled 47 rfl) (by decide) ?_
            exact hz_lret (pc := 83) (hz_dec kX12_pooled 48 rfl) rfl ⟨rfl, rfl, hf1.S rfl, hR1⟩
          · skip
            exact absurd h5 (wh_ne (k := 2) hw (by decide) (by decide))
        · skip
          exact absurd h4 (wh_ne (k := 1) hw (by decide) (by decide))
      · skip
        exact absurd h3 (wh_ne (k := 0) hw (by decide) (by decide))
    · skip
      exact absurd hi (by omega)
set_option maxHeartbeats 4000000 in
set_option maxRecDepth 100000 in
theorem c_pooled0 {κ : hz_C} {z : Nat} {M : hz_M} {H : ho_H} (hz : 63 + 34 * (hoN H).length ≤ z) (hnn : (hoN H).length ≤ 6) (hT4 : (hoT H).length ≤ 4000) {ll : Nat} {fr kn : Int32} (hR : hcR M z H ll fr kn) {v : Nat} (hv : v < (hoN H).length) {N : nd_N} (hN : ndL (hoN H) v = N) {i : Nat} (hup : N.2.1 = true) (hI : ksI N.1) (hi : i < (ksP N.1).length) : hz_Mt κ xX11_pooled 1 0 0 [.ref 8, .int (nI v), .int (nI i), .int (nI 0)] z M (hcP M z H (.long (idS (poL (ksP N.1) i))) H) := by
  refine hz_ent (lo := [(0, .ref 8), (1, .int (nI v)), (2, .int (nI i)), (3, .int (nI 0))]) (by decide) (Nat.le_of_ble_eq_true rfl) rfl ?_
  have hH := hR.1
  have hNs := hR.2.1
  obtain ⟨hO, hQ, hD⟩ := id hR.2.2.2.2.1
  obtain ⟨g53, h53⟩ := hR.2.2.2.2.2.1
  have hJ := hR.2.2.2.1
  obtain ⟨g56, h56, hT56⟩ := hR.2.2.2.2.2.2.2.2.2.1
  have hdf := hR.2.2.2.2.2.2.2.2.2.2
  have hck : ck_k M z := hJ.2.2.2.2.2.2.2.1
  have hcs : ck_s M := hJ.2.2.2.2.2.2.2.2.1
  have hz63 : 63 ≤ z := by omega
  have hK := hR.2.2.1 v hv
  rw [hN] at hK
  obtain ⟨hn, ⟨gd, hgd, hgD⟩, hT, hC, hP, hL⟩ := id hK
  have hn : M (63 + 34 * v) = ndO (63 + 34 * v) (nI v) (nI 1) (nI (ksN N.1)) (pvI (ksF N.1)) N.2.2.1 N.2.2.2 := by rw [hup] at hn; exact hn
  have hpO := hP.1.1
  rw [List.length_map] at hpO
  obtain ⟨fB, gB, hfB, hgB, hxB⟩ := id hP.1.2.2.2
  obtain ⟨ff, hff, hfx⟩ := id hP.2
  have hp16 : (ksP N.1).length ≤ 16 := by have q := hP.1.2.1; rw [List.length_map] at q; exact q
  have hiL : i < ((ksP N.1).map Prod.fst).length := by rw [List.length_map]; exact hi
  have hg1 : gB i = nI (offL ((ksP N.1).map Prod.fst) i) := hxB.1 i (by omega)
  have hoo : offL ((ksP N.1).map Prod.fst) i + (poL (ksP N.1) i).length ≤ 5728 := by have r := offL_mono ((ksP N.1).map Prod.fst) ((ksP N.1).map Prod.fst).length (i + 1) (by omega); simp only [offL] at r; rw [rowL_po] at r; have r2 := hP.1.2.2.1; omega
  have hAi : isA fB (offL ((ksP N.1).map Prod.fst) i) (poL (ksP N.1) i) := by have q := hxB.2 i hiL; rw [rowL_po] at q; exact q
  refine hz_aloadn (pc := 0) 0 (hz_dec kX11_pooled 0 rfl) rfl ?_
  refine hz_iloadn (pc := 1) 1 (hz_dec kX11_pooled 1 rfl) rfl ?_
  refine hz_xV (pc := 2) (a := 8) (As := [.int (nI v)]) (st := []) (hz_dec kX11_pooled 2 rfl) co_X11_162 im_X11_nodeOf se_X11_nodeOf rfl hH (by omega) (by omega) (c_nOf hz63 hH hnn hNs (b := v) hv) rfl (by decide) ⟨Nat.le_refl _, Nat.le_refl _⟩ (Nat.le_of_ble_eq_true rfl) rfl ?_
  refine hz_astore (pc := 5) (i := 4) (lo2 := [(4, .ref (63 + 34 * v)), (0, .ref 8), (1, .int (nI v)), (2, .int (nI i)), (3, .int (nI 0))]) (hz_dec kX11_pooled 3 rfl) (by decide) rfl ?_
  refine hz_aload (pc := 7) 0 (hz_dec kX11_pooled 4 rfl) rfl ?_
  refine hz_ifnull (pc := 9) (hz_dec kX11_pooled 5 rfl) ?_
  refine hz_aload (pc := 12) 0 (hz_dec kX11_pooled 6 rfl) rfl ?_
  refine hz_get (pc := 14) (hz_dec kX11_pooled 7 rfl) fo_X11_166 hn (by omega) (by omega) rfl ?_
  refine hz_z_eq (pc := 17) (tgt := 36) (hz_dec kX11_pooled 8 rfl) (by decide) (by omega) (fun hq1 => ?_) (fun hq1 => ?_)
  · skip
    exact absurd hq1 (by decide)
  · skip
    refine hz_iloadn (pc := 20) 3 (hz_dec kX11_pooled 9 rfl) rfl ?_
    refine hz_z_lt (pc := 21) (tgt := 36) (hz_dec kX11_pooled 10 rfl) (by decide) (by omega) ?_
    refine hz_iloadn (pc := 24) 3 (hz_dec kX11_pooled 11 rfl) rfl ?_
    refine hz_aload (pc := 25) 0 (hz_dec kX11_pooled 12 rfl) rfl ?_
    refine hz_get (pc := 27) (hz_dec kX11_pooled 13 rfl) fo_X11_257 hn (by omega) (by omega) rfl ?_
    refine hz_get (pc := 30) (hz_dec kX11_pooled 14 rfl) fo_X11_220 hpO (by omega) (by omega) rfl ?_
    refine hz_n_lt (pc := 33) (tgt := 38) (hz_dec kX11_pooled 15 rfl) (by decide) (by omega) (by omega) (fun h2 => ?_) (fun h2 => ?_)
    · skip
      refine hz_iloadn (pc := 38) 4 (hz_dec kX11_pooled 18 rfl) rfl ?_
      refine hz_swIn (pc := 39) (off := 25) (tgt := 64) (hz_dec kX11_pooled 19 rfl) (by decide) (by decide) rfl (by decide) ?_
      refine hz_aloadn (pc := 64) 1 (hz_dec kX11_pooled 20 rfl) rfl ?_
      refine hz_get (pc := 65) (hz_dec kX11_pooled 21 rfl) fo_X11_21 hH (by omega) (by omega) rfl ?_
      refine hz_aload (pc := 68) 0 (hz_dec kX11_pooled 22 rfl) rfl ?_
      refine hz_get (pc := 70) (hz_dec kX11_pooled 23 rfl) fo_X11_257 hn (by omega) (by omega) rfl ?_
      refine hz_get (pc := 73) (hz_dec kX11_pooled 24 rfl) fo_X11_225 hpO (by omega) (by omega) rfl ?_
      refine hz_aload (pc := 76) 0 (hz_dec kX11_pooled 25 rfl) rfl ?_
      refine hz_get (pc := 78) (hz_dec kX11_pooled 26 rfl) fo_X11_257 hn (by omega) (by omega) rfl ?_
      refine hz_get (pc := 81) (hz_dec kX11_pooled 27 rfl) fo_X11_228 hpO (by omega) (by omega) rfl ?_
      refine hz_iloadn (pc := 84) 3 (hz_dec kX11_pooled 28 rfl) rfl ?_
      refine hz_iald (pc := 85) (j := i) (hz_dec kX11_pooled 29 rfl) hgB (by omega) (by omega) rfl (by omega) (by decide) ?_
      refine hz_eqi (pc := 86) hg1 ?_
      refine hz_aload (pc := 86) 0 (hz_dec kX11_pooled 30 rfl) rfl ?_
      refine hz_get (pc := 88) (hz_dec kX11_pooled 31 rfl) fo_X11_257 hn (by omega) (by omega) rfl ?_
      refine hz_iloadn (pc := 91) 3 (hz_dec kX11_pooled 32 rfl) rfl ?_
      refine hz_xV (pc := 92) (a := 63 + 34 * v + 10) (As := [.int (nI i)]) (st := [.int (nI (offL ((ksP N.1).map Prod.fst) i)), .ref (63 + 34 * v + 10 + 1), .ref 9]) (hz_dec kX11_pooled 33 rfl) co_X11_221 im_X7_lengthOf se_X7_lengthOf rfl hpO (by omega) (by omega) (c_lenOf hP.1 (by omega) (by omega) (by decide) (by decide) (k := i) hiL) rfl (by decide) ⟨Nat.le_refl _, Nat.le_refl _⟩ (Nat.le_of_ble_eq_true rfl) rfl ?_
      refine hz_eqi (pc := 95) (congrArg nI (congrArg List.length (rowL_po (ksP N.1) i))) ?_
      refine hz_callV (pc := 95) (a := 9) (As := [.ref (63 + 34 * v + 10 + 1), .int (nI (offL ((ksP N.1).map Prod.fst) i)), .int (nI ((poL (ksP N.1) i).length))]) (st := []) (hz_dec kX11_pooled 34 rfl) co_X11_133 im_X8_digest se_X8_digest rfl hck.1 (by omega) (by omega) (c_digF hck hcs (at_ := offL ((ksP N.1).map Prod.fst) i) (n := (poL (ksP N.1) i).length) hfB (by omega) (by omega) (by decide) (by omega)) rfl (by decide) ⟨Nat.le_refl _, Nat.le_refl _⟩ (Nat.le_of_ble_eq_true rfl) rfl (fun r9 z9 M2 hp9 => ?_)
      obtain ⟨rfl, rfl, hf2, hs2, v2, w2, x2⟩ := hp9
      have hfS2 : frS [(9, 39)] M M2 := hf2.S0 rfl
      have hJ2 : juS M2 z := hJ.k hf2 rfl rfl rfl hs2
      have hR2 : hcR M2 z H ll fr kn := hR.j hfS2 hJ2
      have hck2 : ck_k M2 z := hJ2.2.2.2.2.2.2.2.1
      have hH2 := hR2.1
      rw [shS_of hAi rfl] at x2
      refine hz_aloadn (pc := 98) 1 (hz_dec kX11_pooled 35 rfl) rfl ?_
      refine hz_get (pc := 99) (hz_dec kX11_pooled 36 rfl) fo_X11_21 hH2 (by omega) (by omega) rfl ?_
      refine hz_iconst (pc := 102) (v := nI 0) (hz_dec kX11_pooled 37 rfl) (by decide) ?_
      refine hz_callV (pc := 103) (a := 9) (As := [.int (nI 0)]) (st := []) (hz_dec kX11_pooled 38 rfl) co_X11_140 im_X8_limbOf se_X8_limbOf rfl hck2.1 (by omega) (by omega) (c_limbOf hck2.1 w2 ⟨by decide, by omega⟩ ⟨by decide, by omega⟩ (k := 0) (by decide)) rfl (by decide) ⟨Nat.le_refl _, Nat.le_refl _⟩ (Nat.le_of_ble_eq_true rfl) rfl (fun r9 z9 M9 hp9 => ?_)
      obtain ⟨rfl, rfl, rfl⟩ := hp9
      exact hz_lret (pc := 106) (hz_dec kX11_pooled 39 rfl) rfl ⟨congrArg (fun y => some (Value.long y)) ((sh_lim_c (by decide) x2).symm), rfl, (hfS2.mono (fun q (h9 : outS [(8, 63 + 34 * (hoN H).length)] q) => ⟨by have r := h9.1; omega, trivial⟩)), ll, fr, kn, hR2⟩
    · skip
      exact absurd hi (by omega)
set_option maxHeartbeats 4000000 in
set_option maxRecDepth 100000 in
theorem c_rpooled0 {κ : hz_C} {z B : Nat} {M : hz_M} {H : ho_H} (hnn : (hoN H).length ≤ 6) (hT4 : (hoT H).length ≤ 4000) (hR : hmR M z B H) {v : Nat} (hv : v < (hoN H).length) {N : nd_N} (hN : ndL (hoN H) v = N) {i : Nat} (hup : N.2.1 = true) (hI : ksI N.1) (hi : i < (ksP N.1).length) : hz_Mt κ xX12_pooled 1 0 0 [.ref B, .int (nI v), .int (nI i), .int (nI 0)] z M (hmP M z B (.long (idS (poL (ksP N.1) i))) H) := by
  refine hz_ent (lo := [(0, .ref B), (1, .int (nI v)), (2, .int (nI i)), (3, .int (nI 0))]) (by decide) (Nat.le_of_ble_eq_true rfl) rfl ?_
  obtain ⟨hk0_, hE0, ⟨m1, m2, m3⟩, hNd, a5, a6, a7, a8⟩ := id hR
  obtain ⟨⟨fs, hO, hF⟩, -, -, h8, hz⟩ := id hk0_
  obtain ⟨x1, x3, x4, x5, x6, x7, x8⟩ := id m3
  have eSt : stI (ndL (hoN H) v).2.1 = nI 0 := by rw [hN, hup]; rfl
  refine hz_aloadn (pc := 0) 0 (hz_dec kX12_pooled 0 rfl) rfl ?_
  refine hz_iconst (pc := 1) (v := nI 0) (hz_dec kX12_pooled 1 rfl) (by decide) ?_
  refine hz_puti (pc := 2) (hz_dec kX12_pooled 2 rfl) fo_X12_302 ft_X12_0 hO h8 (by omega) (by rw [hF.1]; decide) ?_
  have hf1 : mfr B [0, 89] [] M (va_up M B (.inr (12, (List.set fs 0 (.int (nI 0)))))) := (mfr.rf ⟨fs, hO, hF⟩).upO (k := 0) hO hF rfl rfl
  have hR1 : hmR (va_up M B (.inr (12, (List.set fs 0 (.int (nI 0)))))) z B H := hR.m0 hf1 hE0.upO ((fdB_of (va_up_self _ _ _) 89).trans ((List.getElem?_set_ne (by decide)).trans ((fdB_of hO 89).symm.trans x8)))
  generalize (va_up M B (.inr (12, (List.set fs 0 (.int (nI 0)))))) = M1 at *
  obtain ⟨hk1, hE1, ⟨n1, d1, q1⟩, hNd1, a51, a61, a71, a81⟩ := id hR1
  obtain ⟨⟨fs1, hO1, hF1⟩, -, -, -, -⟩ := id hk1
  have h0 : mdN M1 B v N := by have q := hNd1 v hv; rw [hN] at q; exact q
  have hv6 : v < 6 := by omega
  have h01 : mnS M1 B v 1 N.1 (pvI (ksF N.1)) (ksP N.1) := by have q := h0.1; rw [hup] at q; exact q
  have h02 : orX (fA M1 B) v (mkO (ksL N.1)) := by have q := h0.2.1; rw [hup] at q; exact q
  obtain ⟨p1, p2, p3, p4, ⟨p5a, p5b, p5c⟩, p6, p7, p9⟩ := id h01
  have hbp := hI.1.p hI.2.1
  obtain ⟨b1, b2, b3, b4, b5, b6, b7, b8⟩ := id hbp
  have hp16 : (ksP N.1).length ≤ 16 := hI.2.2.2.1.1
  refine hz_aloadn (pc := 5) 0 (hz_dec kX12_pooled 3 rfl) rfl ?_
  refine hz_iloadn (pc := 6) 1 (hz_dec kX12_pooled 4 rfl) rfl ?_
  refine hz_xV (pc := 7) (a := B) (As := [.int (nI v)]) (st := []) (hz_dec kX12_pooled 5 rfl) co_X12_692 im_X12_stateOf se_X12_stateOf rfl hO1 h8 (by omega) (c_st hnn hR1 hv) rfl (by decide) ⟨Nat.le_refl _, Nat.le_refl _⟩ (Nat.le_of_ble_eq_true rfl) rfl ?_
  refine hz_eqi (pc := 10) eSt ?_
  refine hz_z_ne (pc := 10) (tgt := 27) (hz_dec kX12_pooled 6 rfl) (by decide) (by omega) (fun hq1 => ?_) (fun hq1 => ?_)
  · skip
    exact absurd hq1 (by decide)
  · skip
    refine hz_iloadn (pc := 13) 2 (hz_dec kX12_pooled 7 rfl) rfl ?_
    refine hz_z_lt (pc := 14) (tgt := 27) (hz_dec kX12_pooled 8 rfl) (by decide) (by omega) ?_
    refine hz_iloadn (pc := 17) 2 (hz_dec kX12_pooled 9 rfl) rfl ?_
    refine hz_aloadn (pc := 18) 0 (hz_dec kX12_pooled 10 rfl) rfl ?_
    refine hz_get (pc := 19) (v := .ref (B + 58)) (hz_dec kX12_pooled 11 rfl) fo_X12_193 hO1 h8 (by omega) (hF1.2 67 (by decide) (by decide)) ?_
    refine hz_iloadn (pc := 22) 1 (hz_dec kX12_pooled 12 rfl) rfl ?_
    refine hz_iald (pc := 23) (j := v) (hz_dec kX12_pooled 13 rfl) hE1.a58 (by omega) (by omega) rfl (by omega) (by decide) ?_
    refine hz_eqi (pc := 24) p6.1 ?_
    refine hz_n_lt (pc := 24) (tgt := 29) (hz_dec kX12_pooled 14 rfl) (by decide) (by omega) (by omega) (fun h2 => ?_) (fun h2 => ?_)
    · skip
      refine hz_bipush (pc := 29) (v := nI 16) (hz_dec kX12_pooled 17 rfl) (by decide) ?_
      refine hz_iloadn (pc := 31) 1 (hz_dec kX12_pooled 18 rfl) rfl ?_
      refine hz_mulN (pc := 32) (hz_dec kX12_pooled 19 rfl) ?_
      refine hz_iloadn (pc := 33) 2 (hz_dec kX12_pooled 20 rfl) rfl ?_
      refine hz_addN (pc := 34) (hz_dec kX12_pooled 21 rfl) ?_
      refine hz_istore (pc := 35) (i := 4) (lo2 := [(4, .int (nI ((16 * v) + i))), (0, .ref B), (1, .int (nI v)), (2, .int (nI i)), (3, .int (nI 0))]) (hz_dec kX12_pooled 22 rfl) (by decide) rfl ?_
      refine hz_iloadn (pc := 37) 4 (hz_dec kX12_pooled 23 rfl) rfl ?_
      refine hz_z_ne (pc := 38) (tgt := 51) (hz_dec kX12_pooled 24 rfl) (by decide) (by omega) (fun hq2 => ?_) (fun hq2 => ?_)
      · skip
        exact absurd hq2 (by decide)
      · skip
        refine hz_aloadn (pc := 41) 1 (hz_dec kX12_pooled 25 rfl) rfl ?_
        refine hz_get (pc := 42) (v := .ref (B + 56)) (hz_dec kX12_pooled 26 rfl) fo_X12_187 hO1 h8 (by omega) (hF1.2 65 (by decide) (by decide)) ?_
        refine hz_iload (pc := 45) 0 (hz_dec kX12_pooled 27 rfl) rfl ?_
        refine hz_lald (pc := 47) (j := (16 * v) + i) (hz_dec kX12_pooled 28 rfl) hE1.a56 (by omega) (by omega) rfl (by omega) (by decide) ?_
        refine hz_eql (pc := 48) (p6.2 i hi).2.1 ?_
        refine hz_goto (pc := 48) (tgt := 83) (hz_dec kX12_pooled 29 rfl) (by decide) ?_
        exact hz_lret (pc := 83) (hz_dec kX12_pooled 48 rfl) rfl ⟨rfl, rfl, hf1.S rfl, hR1⟩
    · skip
      exact absurd hi (by omega)
set_option maxHeartbeats 4000000 in
set_option maxRecDepth 100000 in
theorem c_pooled1 {κ : hz_C} {z : Nat} {M : hz_M} {H : ho_H} (hz : 63 + 34 * (hoN H).length ≤ z) (hnn : (hoN H).length ≤ 6) (hT4 : (hoT H).length ≤ 4000) {ll : Nat} {fr kn : Int32} (hR : hcR M z H ll fr kn) {v : Nat} (hv : v < (hoN H).length) {N : nd_N} (hN : ndL (hoN H) v = N) {i : Nat} (hup : N.2.1 = true) (hI : ksI N.1) (hi : i < (ksP N.1).length) : hz_Mt κ xX11_pooled 1 0 0 [.ref 8, .int (nI v), .int (nI i), .int (nI 1)] z M (hcP M z H (.long (poV (ksP N.1) i)) H) := by
  refine hz_ent (lo := [(0, .ref 8), (1, .int (nI v)), (2, .int (nI i)), (3, .int (nI 1))]) (by decide) (Nat.le_of_ble_eq_true rfl) rfl ?_
  have hH := hR.1
  have hNs := hR.2.1
  obtain ⟨hO, hQ, hD⟩ := id hR.2.2.2.2.1
  obtain ⟨g53, h53⟩ := hR.2.2.2.2.2.1
  have hJ := hR.2.2.2.1
  obtain ⟨g56, h56, hT56⟩ := hR.2.2.2.2.2.2.2.2.2.1
  have hdf := hR.2.2.2.2.2.2.2.2.2.2
  have hck : ck_k M z := hJ.2.2.2.2.2.2.2.1
  have hcs : ck_s M := hJ.2.2.2.2.2.2.2.2.1
  have hz63 : 63 ≤ z := by omega
  have hK := hR.2.2.1 v hv
  rw [hN] at hK
  obtain ⟨hn, ⟨gd, hgd, hgD⟩, hT, hC, hP, hL⟩ := id hK
  have hn : M (63 + 34 * v) = ndO (63 + 34 * v) (nI v) (nI 1) (nI (ksN N.1)) (pvI (ksF N.1)) N.2.2.1 N.2.2.2 := by rw [hup] at hn; exact hn
  have hpO := hP.1.1
  rw [List.length_map] at hpO
  obtain ⟨fB, gB, hfB, hgB, hxB⟩ := id hP.1.2.2.2
  obtain ⟨ff, hff, hfx⟩ := id hP.2
  have hp16 : (ksP N.1).length ≤ 16 := by have q := hP.1.2.1; rw [List.length_map] at q; exact q
  have hiL : i < ((ksP N.1).map Prod.fst).length := by rw [List.length_map]; exact hi
  have hg1 : gB i = nI (offL ((ksP N.1).map Prod.fst) i) := hxB.1 i (by omega)
  have hoo : offL ((ksP N.1).map Prod.fst) i + (poL (ksP N.1) i).length ≤ 5728 := by have r := offL_mono ((ksP N.1).map Prod.fst) ((ksP N.1).map Prod.fst).length (i + 1) (by omega); simp only [offL] at r; rw [rowL_po] at r; have r2 := hP.1.2.2.1; omega
  have hAi : isA fB (offL ((ksP N.1).map Prod.fst) i) (poL (ksP N.1) i) := by have q := hxB.2 i hiL; rw [rowL_po] at q; exact q
  refine hz_aloadn (pc := 0) 0 (hz_dec kX11_pooled 0 rfl) rfl ?_
  refine hz_iloadn (pc := 1) 1 (hz_dec kX11_pooled 1 rfl) rfl ?_
  refine hz_xV (pc := 2) (a := 8) (As := [.int (nI v)]) (st := []) (hz_dec kX11_pooled 2 rfl) co_X11_162 im_X11_nodeOf se_X11_nodeOf rfl hH (by omega) (by omega) (c_nOf hz63 hH hnn hNs (b := v) hv) rfl (by decide) ⟨Nat.le_refl _, Nat.le_refl _⟩ (Nat.le_of_ble_eq_true rfl) rfl ?_
  refine hz_astore (pc := 5) (i := 4) (lo2 := [(4, .ref (63 + 34 * v)), (0, .ref 8), (1, .int (nI v)), (2, .int (nI i)), (3, .int (nI 1))]) (hz_dec kX11_pooled 3 rfl) (by decide) rfl ?_
  refine hz_aload (pc := 7) 0 (hz_dec kX11_pooled 4 rfl) rfl ?_
  refine hz_ifnull (pc := 9) (hz_dec kX11_pooled 5 rfl) ?_
  refine hz_aload (pc := 12) 0 (hz_dec kX11_pooled 6 rfl) rfl ?_
  refine hz_get (pc := 14) (hz_dec kX11_pooled 7 rfl) fo_X11_166 hn (by omega) (by omega) rfl ?_
  refine hz_z_eq (pc := 17) (tgt := 36) (hz_dec kX11_pooled 8 rfl) (by decide) (by omega) (fun hq1 => ?_) (fun hq1 => ?_)
  · skip
    exact absurd hq1 (by decide)
  · skip
    refine hz_iloadn (pc := 20) 3 (hz_dec kX11_pooled 9 rfl) rfl ?_
    refine hz_z_lt (pc := 21) (tgt := 36) (hz_dec kX11_pooled 10 rfl) (by decide) (by omega) ?_
    refine hz_iloadn (pc := 24) 3 (hz_dec kX11_pooled 11 rfl) rfl ?_
    refine hz_aload (pc := 25) 0 (hz_dec kX11_pooled 12 rfl) rfl ?_
    refine hz_get (pc := 27) (hz_dec kX11_pooled 13 rfl) fo_X11_257 hn (by omega) (by omega) rfl ?_
    refine hz_get (pc := 30) (hz_dec kX11_pooled 14 rfl) fo_X11_220 hpO (by omega) (by omega) rfl ?_
    refine hz_n_lt (pc := 33) (tgt := 38) (hz_dec kX11_pooled 15 rfl) (by decide) (by omega) (by omega) (fun h2 => ?_) (fun h2 => ?_)
    · skip
      refine hz_iloadn (pc := 38) 4 (hz_dec kX11_pooled 18 rfl) rfl ?_
      refine hz_swIn (pc := 39) (off := 68) (tgt := 107) (hz_dec kX11_pooled 19 rfl) (by decide) (by decide) rfl (by decide) ?_
      refine hz_aload (pc := 107) 0 (hz_dec kX11_pooled 40 rfl) rfl ?_
      refine hz_get (pc := 109) (hz_dec kX11_pooled 41 rfl) fo_X11_260 hn (by omega) (by omega) rfl ?_
      refine hz_iloadn (pc := 112) 3 (hz_dec kX11_pooled 42 rfl) rfl ?_
      refine hz_lald (pc := 113) (j := i) (hz_dec kX11_pooled 43 rfl) hff (by omega) (by omega) rfl (by omega) (by decide) ?_
      refine hz_eql (pc := 114) (hfx i hi) ?_
      exact hz_lret (pc := 114) (hz_dec kX11_pooled 44 rfl) rfl (hcP.no hR _)
    · skip
      exact absurd hi (by omega)
set_option maxHeartbeats 4000000 in
set_option maxRecDepth 100000 in
theorem c_rpooled1 {κ : hz_C} {z B : Nat} {M : hz_M} {H : ho_H} (hnn : (hoN H).length ≤ 6) (hT4 : (hoT H).length ≤ 4000) (hR : hmR M z B H) {v : Nat} (hv : v < (hoN H).length) {N : nd_N} (hN : ndL (hoN H) v = N) {i : Nat} (hup : N.2.1 = true) (hI : ksI N.1) (hi : i < (ksP N.1).length) : hz_Mt κ xX12_pooled 1 0 0 [.ref B, .int (nI v), .int (nI i), .int (nI 1)] z M (hmP M z B (.long (poV (ksP N.1) i)) H) := by
  refine hz_ent (lo := [(0, .ref B), (1, .int (nI v)), (2, .int (nI i)), (3, .int (nI 1))]) (by decide) (Nat.le_of_ble_eq_true rfl) rfl ?_
  obtain ⟨hk0_, hE0, ⟨m1, m2, m3⟩, hNd, a5, a6, a7, a8⟩ := id hR
  obtain ⟨⟨fs, hO, hF⟩, -, -, h8, hz⟩ := id hk0_
  obtain ⟨x1, x3, x4, x5, x6, x7, x8⟩ := id m3
  have eSt : stI (ndL (hoN H) v).2.1 = nI 0 := by rw [hN, hup]; rfl
  refine hz_aloadn (pc := 0) 0 (hz_dec kX12_pooled 0 rfl) rfl ?_
  refine hz_iconst (pc := 1) (v := nI 0) (hz_dec kX12_pooled 1 rfl) (by decide) ?_
  refine hz_puti (pc := 2) (hz_dec kX12_pooled 2 rfl) fo_X12_302 ft_X12_0 hO h8 (by omega) (by rw [hF.1]; decide) ?_
  have hf1 : mfr B [0, 89] [] M (va_up M B (.inr (12, (List.set fs 0 (.int (nI 0)))))) := (mfr.rf ⟨fs, hO, hF⟩).upO (k := 0) hO hF rfl rfl
  have hR1 : hmR (va_up M B (.inr (12, (List.set fs 0 (.int (nI 0)))))) z B H := hR.m0 hf1 hE0.upO ((fdB_of (va_up_self _ _ _) 89).trans ((List.getElem?_set_ne (by decide)).trans ((fdB_of hO 89).symm.trans x8)))
  generalize (va_up M B (.inr (12, (List.set fs 0 (.int (nI 0)))))) = M1 at *
  obtain ⟨hk1, hE1, ⟨n1, d1, q1⟩, hNd1, a51, a61, a71, a81⟩ := id hR1
  obtain ⟨⟨fs1, hO1, hF1⟩, -, -, -, -⟩ := id hk1
  have h0 : mdN M1 B v N := by have q := hNd1 v hv; rw [hN] at q; exact q
  have hv6 : v < 6 := by omega
  have h01 : mnS M1 B v 1 N.1 (pvI (ksF N.1)) (ksP N.1) := by have q := h0.1; rw [hup] at q; exact q
  have h02 : orX (fA M1 B) v (mkO (ksL N.1)) := by have q := h0.2.1; rw [hup] at q; exact q
  obtain ⟨p1, p2, p3, p4, ⟨p5a, p5b, p5c⟩, p6, p7, p9⟩ := id h01
  have hbp := hI.1.p hI.2.1
  obtain ⟨b1, b2, b3, b4, b5, b6, b7, b8⟩ := id hbp
  have hp16 : (ksP N.1).length ≤ 16 := hI.2.2.2.1.1
  refine hz_aloadn (pc := 5) 0 (hz_dec kX12_pooled 3 rfl) rfl ?_
  refine hz_iloadn (pc := 6) 1 (hz_dec kX12_pooled 4 rfl) rfl ?_
  refine hz_xV (pc := 7) (a := B) (As := [.int (nI v)]) (st := []) (hz_dec kX12_pooled 5 rfl) co_X12_692 im_X12_stateOf se_X12_stateOf rfl hO1 h8 (by omega) (c_st hnn hR1 hv) rfl (by decide) ⟨Nat.le_refl _, Nat.le_refl _⟩ (Nat.le_of_ble_eq_true rfl) rfl ?_
  refine hz_eqi (pc := 10) eSt ?_
  refine hz_z_ne (pc := 10) (tgt := 27) (hz_dec kX12_pooled 6 rfl) (by decide) (by omega) (fun hq1 => ?_) (fun hq1 => ?_)
  · skip
    exact absurd hq1 (by decide)
  · skip
    refine hz_iloadn (pc := 13) 2 (hz_dec kX12_pooled 7 rfl) rfl ?_
    refine hz_z_lt (pc := 14) (tgt := 27) (hz_dec kX12_pooled 8 rfl) (by decide) (by omega) ?_
    refine hz_iloadn (pc := 17) 2 (hz_dec kX12_pooled 9 rfl) rfl ?_
    refine hz_aloadn (pc := 18) 0 (hz_dec kX12_pooled 10 rfl) rfl ?_
    refine hz_get (pc := 19) (v := .ref (B + 58)) (hz_dec kX12_pooled 11 rfl) fo_X12_193 hO1 h8 (by omega) (hF1.2 67 (by decide) (by decide)) ?_
    refine hz_iloadn (pc := 22) 1 (hz_dec kX12_pooled 12 rfl) rfl ?_
    refine hz_iald (pc := 23) (j := v) (hz_dec kX12_pooled 13 rfl) hE1.a58 (by omega) (by omega) rfl (by omega) (by decide) ?_
    refine hz_eqi (pc := 24) p6.1 ?_
    refine hz_n_lt (pc := 24) (tgt := 29) (hz_dec kX12_pooled 14 rfl) (by decide) (by omega) (by omega) (fun h2 => ?_) (fun h2 => ?_)
    · skip
      refine hz_bipush (pc := 29) (v := nI 16) (hz_dec kX12_pooled 17 rfl) (by decide) ?_
      refine hz_iloadn (pc := 31) 1 (hz_dec kX12_pooled 18 rfl) rfl ?_
      refine hz_mulN (pc := 32) (hz_dec kX12_pooled 19 rfl) ?_
      refine hz_iloadn (pc := 33) 2 (hz_dec kX12_pooled 20 rfl) rfl ?_
      refine hz_addN (pc := 34) (hz_dec kX12_pooled 21 rfl) ?_
      refine hz_istore (pc := 35) (i := 4) (lo2 := [(4, .int (nI ((16 * v) + i))), (0, .ref B), (1, .int (nI v)), (2, .int (nI i)), (3, .int (nI 1))]) (hz_dec kX12_pooled 22 rfl) (by decide) rfl ?_
      refine hz_iloadn (pc := 37) 4 (hz_dec kX12_pooled 23 rfl) rfl ?_
      refine hz_z_ne (pc := 38) (tgt := 51) (hz_dec kX12_pooled 24 rfl) (by decide) (by omega) (fun hq2 => ?_) (fun hq2 => ?_)
      · skip
        refine hz_iloadn (pc := 51) 4 (hz_dec kX12_pooled 30 rfl) rfl ?_
        refine hz_iconst (pc := 52) (v := nI 1) (hz_dec kX12_pooled 31 rfl) (by decide) ?_
        refine hz_n_ne (pc := 53) (tgt := 66) (hz_dec kX12_pooled 32 rfl) (by decide) (by omega) (by omega) (fun hq3 => ?_) (fun hq3 => ?_)
        · skip
          exact absurd hq3 (by decide)
        · skip
          refine hz_aloadn (pc := 56) 1 (hz_dec kX12_pooled 33 rfl) rfl ?_
          refine hz_get (pc := 57) (v := .ref (B + 57)) (hz_dec kX12_pooled 34 rfl) fo_X12_190 hO1 h8 (by omega) (hF1.2 66 (by decide) (by decide)) ?_
          refine hz_iload (pc := 60) 0 (hz_dec kX12_pooled 35 rfl) rfl ?_
          refine hz_lald (pc := 62) (j := (16 * v) + i) (hz_dec kX12_pooled 36 rfl) hE1.a57 (by omega) (by omega) rfl (by omega) (by decide) ?_
          refine hz_eql (pc := 63) (p6.2 i hi).2.2.1 ?_
          refine hz_goto (pc := 63) (tgt := 83) (hz_dec kX12_pooled 37 rfl) (by decide) ?_
          exact hz_lret (pc := 83) (hz_dec kX12_pooled 48 rfl) rfl ⟨rfl, rfl, hf1.S rfl, hR1⟩
      · skip
        exact absurd hq2 (by decide)
    · skip
      exact absurd hi (by omega)
set_option maxHeartbeats 4000000 in
set_option maxRecDepth 100000 in
theorem c_pooled2 {κ : hz_C} {z : Nat} {M : hz_M} {H : ho_H} (hz : 63 + 34 * (hoN H).length ≤ z) (hnn : (hoN H).length ≤ 6) (hT4 : (hoT H).length ≤ 4000) {ll : Nat} {fr kn : Int32} (hR : hcR M z H ll fr kn) {v : Nat} (hv : v < (hoN H).length) {N : nd_N} (hN : ndL (hoN H) v = N) {i : Nat} (hup : N.2.1 = true) (hI : ksI N.1) (hi : i < (ksP N.1).length) : hz_Mt κ xX11_pooled 1 0 0 [.ref 8, .int (nI v), .int (nI i), .int (nI 2)] z M (hcP M z H (.long ((nI (poL (ksP N.1) i).length).toInt64)) H) := by
  refine hz_ent (lo := [(0, .ref 8), (1, .int (nI v)), (2, .int (nI i)), (3, .int (nI 2))]) (by decide) (Nat.le_of_ble_eq_true rfl) rfl ?_
  have hH := hR.1
  have hNs := hR.2.1
  obtain ⟨hO, hQ, hD⟩ := id hR.2.2.2.2.1
  obtain ⟨g53, h53⟩ := hR.2.2.2.2.2.1
  have hJ := hR.2.2.2.1
  obtain ⟨g56, h56, hT56⟩ := hR.2.2.2.2.2.2.2.2.2.1
  have hdf := hR.2.2.2.2.2.2.2.2.2.2
  have hck : ck_k M z := hJ.2.2.2.2.2.2.2.1
  have hcs : ck_s M := hJ.2.2.2.2.2.2.2.2.1
  have hz63 : 63 ≤ z := by omega
  have hK := hR.2.2.1 v hv
  rw [hN] at hK
  obtain ⟨hn, ⟨gd, hgd, hgD⟩, hT, hC, hP, hL⟩ := id hK
  have hn : M (63 + 34 * v) = ndO (63 + 34 * v) (nI v) (nI 1) (nI (ksN N.1)) (pvI (ksF N.1)) N.2.2.1 N.2.2.2 := by rw [hup] at hn; exact hn
  have hpO := hP.1.1
  rw [List.length_map] at hpO
  obtain ⟨fB, gB, hfB, hgB, hxB⟩ := id hP.1.2.2.2
  obtain ⟨ff, hff, hfx⟩ := id hP.2
  have hp16 : (ksP N.1).length ≤ 16 := by have q := hP.1.2.1; rw [List.length_map] at q; exact q
  have hiL : i < ((ksP N.1).map Prod.fst).length := by rw [List.length_map]; exact hi
  have hg1 : gB i = nI (offL ((ksP N.1).map Prod.fst) i) := hxB.1 i (by omega)
  have hoo : offL ((ksP N.1).map Prod.fst) i + (poL (ksP N.1) i).length ≤ 5728 := by have r := offL_mono ((ksP N.1).map Prod.fst) ((ksP N.1).map Prod.fst).length (i + 1) (by omega); simp only [offL] at r; rw [rowL_po] at r; have r2 := hP.1.2.2.1; omega
  have hAi : isA fB (offL ((ksP N.1).map Prod.fst) i) (poL (ksP N.1) i) := by have q := hxB.2 i hiL; rw [rowL_po] at q; exact q
  refine hz_aloadn (pc := 0) 0 (hz_dec kX11_pooled 0 rfl) rfl ?_
  refine hz_iloadn (pc := 1) 1 (hz_dec kX11_pooled 1 rfl) rfl ?_
  refine hz_xV (pc := 2) (a := 8) (As := [.int (nI v)]) (st := []) (hz_dec kX11_pooled 2 rfl) co_X11_162 im_X11_nodeOf se_X11_nodeOf rfl hH (by omega) (by omega) (c_nOf hz63 hH hnn hNs (b := v) hv) rfl (by decide) ⟨Nat.le_refl _, Nat.le_refl _⟩ (Nat.le_of_ble_eq_true rfl) rfl ?_
  refine hz_astore (pc := 5) (i := 4) (lo2 := [(4, .ref (63 + 34 * v)), (0, .ref 8), (1, .int (nI v)), (2, .int (nI i)), (3, .int (nI 2))]) (hz_dec kX11_pooled 3 rfl) (by decide) rfl ?_
  refine hz_aload (pc := 7) 0 (hz_dec kX11_pooled 4 rfl) rfl ?_
  refine hz_ifnull (pc := 9) (hz_dec kX11_pooled 5 rfl) ?_
  refine hz_aload (pc := 12) 0 (hz_dec kX11_pooled 6 rfl) rfl ?_
  refine hz_get (pc := 14) (hz_dec kX11_pooled 7 rfl) fo_X11_166 hn (by omega) (by omega) rfl ?_
  refine hz_z_eq (pc := 17) (tgt := 36) (hz_dec kX11_pooled 8 rfl) (by decide) (by omega) (fun hq1 => ?_) (fun hq1 => ?_)
  · skip
    exact absurd hq1 (by decide)
  · skip
    refine hz_iloadn (pc := 20) 3 (hz_dec kX11_pooled 9 rfl) rfl ?_
    refine hz_z_lt (pc := 21) (tgt := 36) (hz_dec kX11_pooled 10 rfl) (by decide) (by omega) ?_
    refine hz_iloadn (pc := 24) 3 (hz_dec kX11_pooled 11 rfl) rfl ?_
    refine hz_aload (pc := 25) 0 (hz_dec kX11_pooled 12 rfl) rfl ?_
    refine hz_get (pc := 27) (hz_dec kX11_pooled 13 rfl) fo_X11_257 hn (by omega) (by omega) rfl ?_
    refine hz_get (pc := 30) (hz_dec kX11_pooled 14 rfl) fo_X11_220 hpO (by omega) (by omega) rfl ?_
    refine hz_n_lt (pc := 33) (tgt := 38) (hz_dec kX11_pooled 15 rfl) (by decide) (by omega) (by omega) (fun h2 => ?_) (fun h2 => ?_)
    · skip
      refine hz_iloadn (pc := 38) 4 (hz_dec kX11_pooled 18 rfl) rfl ?_
      refine hz_swIn (pc := 39) (off := 76) (tgt := 115) (hz_dec kX11_pooled 19 rfl) (by decide) (by decide) rfl (by decide) ?_
      refine hz_aload (pc := 115) 0 (hz_dec kX11_pooled 45 rfl) rfl ?_
      refine hz_get (pc := 117) (hz_dec kX11_pooled 46 rfl) fo_X11_257 hn (by omega) (by omega) rfl ?_
      refine hz_iloadn (pc := 120) 3 (hz_dec kX11_pooled 47 rfl) rfl ?_
      refine hz_xV (pc := 121) (a := 63 + 34 * v + 10) (As := [.int (nI i)]) (st := []) (hz_dec kX11_pooled 48 rfl) co_X11_221 im_X7_lengthOf se_X7_lengthOf rfl hpO (by omega) (by omega) (c_lenOf hP.1 (by omega) (by omega) (by decide) (by decide) (k := i) hiL) rfl (by decide) ⟨Nat.le_refl _, Nat.le_refl _⟩ (Nat.le_of_ble_eq_true rfl) rfl ?_
      refine hz_eqi (pc := 124) (congrArg nI (congrArg List.length (rowL_po (ksP N.1) i))) ?_
      refine hz_i2l (pc := 124) (hz_dec kX11_pooled 49 rfl) ?_
      exact hz_lret (pc := 125) (hz_dec kX11_pooled 50 rfl) rfl (hcP.no hR _)
    · skip
      exact absurd hi (by omega)
set_option maxHeartbeats 4000000 in
set_option maxRecDepth 100000 in
theorem c_rpooled2 {κ : hz_C} {z B : Nat} {M : hz_M} {H : ho_H} (hnn : (hoN H).length ≤ 6) (hT4 : (hoT H).length ≤ 4000) (hR : hmR M z B H) {v : Nat} (hv : v < (hoN H).length) {N : nd_N} (hN : ndL (hoN H) v = N) {i : Nat} (hup : N.2.1 = true) (hI : ksI N.1) (hi : i < (ksP N.1).length) : hz_Mt κ xX12_pooled 1 0 0 [.ref B, .int (nI v), .int (nI i), .int (nI 2)] z M (hmP M z B (.long ((nI (poL (ksP N.1) i).length).toInt64)) H) := by
  refine hz_ent (lo := [(0, .ref B), (1, .int (nI v)), (2, .int (nI i)), (3, .int (nI 2))]) (by decide) (Nat.le_of_ble_eq_true rfl) rfl ?_
  obtain ⟨hk0_, hE0, ⟨m1, m2, m3⟩, hNd, a5, a6, a7, a8⟩ := id hR
  obtain ⟨⟨fs, hO, hF⟩, -, -, h8, hz⟩ := id hk0_
  obtain ⟨x1, x3, x4, x5, x6, x7, x8⟩ := id m3
  have eSt : stI (ndL (hoN H) v).2.1 = nI 0 := by rw [hN, hup]; rfl
  refine hz_aloadn (pc := 0) 0 (hz_dec kX12_pooled 0 rfl) rfl ?_
  refine hz_iconst (pc := 1) (v := nI 0) (hz_dec kX12_pooled 1 rfl) (by decide) ?_
  refine hz_puti (pc := 2) (hz_dec kX12_pooled 2 rfl) fo_X12_302 ft_X12_0 hO h8 (by omega) (by rw [hF.1]; decide) ?_
  have hf1 : mfr B [0, 89] [] M (va_up M B (.inr (12, (List.set fs 0 (.int (nI 0)))))) := (mfr.rf ⟨fs, hO, hF⟩).upO (k := 0) hO hF rfl rfl
  have hR1 : hmR (va_up M B (.inr (12, (List.set fs 0 (.int (nI 0)))))) z B H := hR.m0 hf1 hE0.upO ((fdB_of (va_up_self _ _ _) 89).trans ((List.getElem?_set_ne (by decide)).trans ((fdB_of hO 89).symm.trans x8)))
  generalize (va_up M B (.inr (12, (List.set fs 0 (.int (nI 0)))))) = M1 at *
  obtain ⟨hk1, hE1, ⟨n1, d1, q1⟩, hNd1, a51, a61, a71, a81⟩ := id hR1
  obtain ⟨⟨fs1, hO1, hF1⟩, -, -, -, -⟩ := id hk1
  have h0 : mdN M1 B v N := by have q := hNd1 v hv; rw [hN] at q; exact q
  have hv6 : v < 6 := by omega
  have h01 : mnS M1 B v 1 N.1 (pvI (ksF N.1)) (ksP N.1) := by have q := h0.1; rw [hup] at q; exact q
  have h02 : orX (fA M1 B) v (mkO (ksL N.1)) := by have q := h0.2.1; rw [hup] at q; exact q
  obtain ⟨p1, p2, p3, p4, ⟨p5a, p5b, p5c⟩, p6, p7, p9⟩ := id h01
  have hbp := hI.1.p hI.2.1
  obtain ⟨b1, b2, b3, b4, b5, b6, b7, b8⟩ := id hbp
  have hp16 : (ksP N.1).length ≤ 16 := hI.2.2.2.1.1
  refine hz_aloadn (pc := 5) 0 (hz_dec kX12_pooled 3 rfl) rfl ?_
  refine hz_iloadn (pc := 6) 1 (hz_dec kX12_pooled 4 rfl) rfl ?_
  refine hz_xV (pc := 7) (a := B) (As := [.int (nI v)]) (st := []) (hz_dec kX12_pooled 5 rfl) co_X12_692 im_X12_stateOf se_X12_stateOf rfl hO1 h8 (by omega) (c_st hnn hR1 hv) rfl (by decide) ⟨Nat.le_refl _, Nat.le_refl _⟩ (Nat.le_of_ble_eq_true rfl) rfl ?_
  refine hz_eqi (pc := 10) eSt ?_
  refine hz_z_ne (pc := 10) (tgt := 27) (hz_dec kX12_pooled 6 rfl) (by decide) (by omega) (fun hq1 => ?_) (fun hq1 => ?_)
  · skip
    exact absurd hq1 (by decide)
  · skip
    refine hz_iloadn (pc := 13) 2 (hz_dec kX12_pooled 7 rfl) rfl ?_
    refine hz_z_lt (pc := 14) (tgt := 27) (hz_dec kX12_pooled 8 rfl) (by decide) (by omega) ?_
    refine hz_iloadn (pc := 17) 2 (hz_dec kX12_pooled 9 rfl) rfl ?_
    refine hz_aloadn (pc := 18) 0 (hz_dec kX12_pooled 10 rfl) rfl ?_
    refine hz_get (pc := 19) (v := .ref (B + 58)) (hz_dec kX12_pooled 11 rfl) fo_X12_193 hO1 h8 (by omega) (hF1.2 67 (by decide) (by decide)) ?_
    refine hz_iloadn (pc := 22) 1 (hz_dec kX12_pooled 12 rfl) rfl ?_
    refine hz_iald (pc := 23) (j := v) (hz_dec kX12_pooled 13 rfl) hE1.a58 (by omega) (by omega) rfl (by omega) (by decide) ?_
    refine hz_eqi (pc := 24) p6.1 ?_
    refine hz_n_lt (pc := 24) (tgt := 29) (hz_dec kX12_pooled 14 rfl) (by decide) (by omega) (by omega) (fun h2 => ?_) (fun h2 => ?_)
    · skip
      refine hz_bipush (pc := 29) (v := nI 16) (hz_dec kX12_pooled 17 rfl) (by decide) ?_
      refine hz_iloadn (pc := 31) 1 (hz_dec kX12_pooled 18 rfl) rfl ?_
      refine hz_mulN (pc := 32) (hz_dec kX12_pooled 19 rfl) ?_
      refine hz_iloadn (pc := 33) 2 (hz_dec kX12_pooled 20 rfl) rfl ?_
      refine hz_addN (pc := 34) (hz_dec kX12_pooled 21 rfl) ?_
      refine hz_istore (pc := 35) (i := 4) (lo2 := [(4, .int (nI ((16 * v) + i))), (0, .ref B), (1, .int (nI v)), (2, .int (nI i)), (3, .int (nI 2))]) (hz_dec kX12_pooled 22 rfl) (by decide) rfl ?_
      refine hz_iloadn (pc := 37) 4 (hz_dec kX12_pooled 23 rfl) rfl ?_
      refine hz_z_ne (pc := 38) (tgt := 51) (hz_dec kX12_pooled 24 rfl) (by decide) (by omega) (fun hq2 => ?_) (fun hq2 => ?_)
      · skip
        refine hz_iloadn (pc := 51) 4 (hz_dec kX12_pooled 30 rfl) rfl ?_
        refine hz_iconst (pc := 52) (v := nI 1) (hz_dec kX12_pooled 31 rfl) (by decide) ?_
        refine hz_n_ne (pc := 53) (tgt := 66) (hz_dec kX12_pooled 32 rfl) (by decide) (by omega) (by omega) (fun hq3 => ?_) (fun hq3 => ?_)
        · skip
          refine hz_iloadn (pc := 66) 4 (hz_dec kX12_pooled 38 rfl) rfl ?_
          refine hz_iconst (pc := 67) (v := nI 2) (hz_dec kX12_pooled 39 rfl) (by decide) ?_
          refine hz_n_ne (pc := 68) (tgt := 82) (hz_dec kX12_pooled 40 rfl) (by decide) (by omega) (by omega) (fun hq4 => ?_) (fun hq4 => ?_)
          · skip
            exact absurd hq4 (by decide)
          · skip
            refine hz_aloadn (pc := 71) 1 (hz_dec kX12_pooled 41 rfl) rfl ?_
            refine hz_get (pc := 72) (v := .ref (B + 55)) (hz_dec kX12_pooled 42 rfl) fo_X12_184 hO1 h8 (by omega) (hF1.2 64 (by decide) (by decide)) ?_
            refine hz_iload (pc := 75) 0 (hz_dec kX12_pooled 43 rfl) rfl ?_
            refine hz_iald (pc := 77) (j := (16 * v) + i) (hz_dec kX12_pooled 44 rfl) hE1.a55 (by omega) (by omega) rfl (by omega) (by decide) ?_
            refine hz_eqi (pc := 78) (p6.2 i hi).1 ?_
            refine hz_i2l (pc := 78) (hz_dec kX12_pooled 45 rfl) ?_
            refine hz_goto (pc := 79) (tgt := 83) (hz_dec kX12_pooled 46 rfl) (by decide) ?_
            exact hz_lret (pc := 83) (hz_dec kX12_pooled 48 rfl) rfl ⟨rfl, rfl, hf1.S rfl, hR1⟩
        · skip
          exact absurd hq3 (by decide)
      · skip
        exact absurd hq2 (by decide)
    · skip
      exact absurd hi (by omega)
set_option maxHeartbeats 4000000 in
set_option maxRecDepth 100000 in
theorem c_bal_l {κ : hz_C} {z : Nat} {M : hz_M} {v : Nat} (hz : 63 + 34 * v + 34 ≤ z) {N : nd_N} (hn : M (63 + 34 * v) = ndO (63 + 34 * v) (nI v) (nI 1) (nI (ksN N.1)) (pvI (ksF N.1)) N.2.2.1 N.2.2.2) {cs : List co_C} (hC : coR M (63 + 34 * v + 2) cs) {ad : Int64} {P : hz_P} (hP : P (some (.long (blS cs ad cs.length))) z M) : ∀ k i, k = cs.length - i → i ≤ cs.length → hz_W κ xX11_balance 3 0 0 P 0 0 38 [(9, .int (nI i)), (7, .long (blS cs ad i)), (4, .ref (63 + 34 * v)), (5, .long ad)] [] z M := by
  intro k
  induction k using Nat.strongRecOn with
  | ind k ih =>
  intro i hk hi
  obtain ⟨hcO, hcl, -, c1, c2, c3, c4, c5, c6, k1, k2, k3, k4, k5, k6, cX⟩ := id hC
  refine hz_iload (pc := 38) 0 (hz_dec kX11_balance 20 rfl) rfl ?_
  refine hz_aload (pc := 40) 2 (hz_dec kX11_balance 21 rfl) rfl ?_
  refine hz_get (pc := 42) (hz_dec kX11_balance 22 rfl) fo_X11_170 hn (by omega) (by omega) rfl ?_
  refine hz_get (pc := 45) (hz_dec kX11_balance 23 rfl) fo_X11_174 hcO (by omega) (by omega) rfl ?_
  refine hz_n_ge (pc := 48) (tgt := 90) (hz_dec kX11_balance 24 rfl) (by decide) (by omega) (by omega) (fun h1 => ?_) (fun h1 => ?_)
  · skip
    have e : i = cs.length := by omega
    rw [e]
    have e : i = cs.length := by omega
    subst e
    refine hz_lload (pc := 90) 1 (hz_dec kX11_balance 43 rfl) rfl ?_
    exact hz_lret (pc := 92) (hz_dec kX11_balance 44 rfl) rfl hP
  · skip
    refine hz_aload (pc := 51) 2 (hz_dec kX11_balance 25 rfl) rfl ?_
    refine hz_get (pc := 53) (hz_dec kX11_balance 26 rfl) fo_X11_170 hn (by omega) (by omega) rfl ?_
    refine hz_get (pc := 56) (hz_dec kX11_balance 27 rfl) fo_X11_413 hcO (by omega) (by omega) rfl ?_
    refine hz_iload (pc := 59) 0 (hz_dec kX11_balance 28 rfl) rfl ?_
    refine hz_lald (pc := 61) (j := i) (hz_dec kX11_balance 29 rfl) k4 (by omega) (by omega) rfl (by omega) (by decide) ?_
    refine hz_eql (pc := 62) (cX i h1).2.2.2.1 ?_
    refine hz_lload (pc := 62) 3 (hz_dec kX11_balance 30 rfl) rfl ?_
    refine hz_lcmp (pc := 64) (hz_dec kX11_balance 31 rfl) ?_
    refine hz_if_ne (pc := 65) (tgt := 84) (hz_dec kX11_balance 32 rfl) (by decide) (fun h2 => ?_) (fun h2 => ?_)
    · skip
      have e2 : blS cs ad (i + 1) = blS cs ad i := if_neg (fun c => h2 ((lg_cmp_eq _ _).mpr c))
      refine hz_incN (pc := 84) (i := 9) (lo2 := [(9, .int (nI (i + 1))), (7, .long (blS cs ad i)), (4, .ref (63 + 34 * v)), (5, .long ad)]) 0 (hz_dec kX11_balance 41 rfl) rfl (by decide) rfl ?_
      refine hz_goto (pc := 87) (tgt := 38) (hz_dec kX11_balance 42 rfl) (by decide) ?_
      refine hz_pick (pc := 38) [0, 1, 2, 3] rfl ?_
      have q := ih (cs.length - (i + 1)) (by omega) (i + 1) rfl (by omega)
      rw [e2] at q
      exact q
    · skip
      have e2 : blS cs ad (i + 1) = (blS cs ad i) + ((coL cs i).2.2.1) := if_pos ((lg_cmp_eq _ _).mp h2)
      refine hz_lload (pc := 68) 1 (hz_dec kX11_balance 33 rfl) rfl ?_
      refine hz_aload (pc := 70) 2 (hz_dec kX11_balance 34 rfl) rfl ?_
      refine hz_get (pc := 72) (hz_dec kX11_balance 35 rfl) fo_X11_170 hn (by omega) (by omega) rfl ?_
      refine hz_get (pc := 75) (hz_dec kX11_balance 36 rfl) fo_X11_410 hcO (by omega) (by omega) rfl ?_
      refine hz_iload (pc := 78) 0 (hz_dec kX11_balance 37 rfl) rfl ?_
      refine hz_lald (pc := 80) (j := i) (hz_dec kX11_balance 38 rfl) k3 (by omega) (by omega) rfl (by omega) (by decide) ?_
      refine hz_eql (pc := 81) (cX i h1).2.2.1 ?_
      refine hz_ladd (pc := 81) (hz_dec kX11_balance 39 rfl) ?_
      refine hz_lstore (pc := 82) (i := 7) (lo2 := [(7, .long ((blS cs ad i) + ((coL cs i).2.2.1))), (9, .int (nI i)), (4, .ref (63 + 34 * v)), (5, .long ad)]) (hz_dec kX11_balance 40 rfl) (by decide) rfl ?_
      refine hz_incN (pc := 84) (i := 9) (lo2 := [(9, .int (nI (i + 1))), (7, .long ((blS cs ad i) + ((coL cs i).2.2.1))), (4, .ref (63 + 34 * v)), (5, .long ad)]) 1 (hz_dec kX11_balance 41 rfl) rfl (by decide) rfl ?_
      refine hz_goto (pc := 87) (tgt := 38) (hz_dec kX11_balance 42 rfl) (by decide) ?_
      refine hz_pick (pc := 38) [0, 1, 2, 3] rfl ?_
      have q := ih (cs.length - (i + 1)) (by omega) (i + 1) rfl (by omega)
      rw [e2] at q
      exact q
