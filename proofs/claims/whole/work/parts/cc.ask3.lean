/-! find, spend, unspent, due, at -/
theorem ixN {i n : Nat} (hi : i < n) (hn : n < 2 ^ 31) : ¬ ixI i n < 0 := by
  unfold ixI
  rw [if_pos hi, Int32.lt_iff_toInt_lt, nI_toInt (by omega)]
  show ¬ (i : Int) < 0
  omega
theorem wh_out {w : Int32} {n : Nat} (h : w < 0 ∨ ¬ w ≤ nI n) (hn : n < 2 ^ 31) : w.toInt < 0 ∨ (n : Int) < w.toInt := by
  rcases h with q | q
  · left; rw [Int32.lt_iff_toInt_lt] at q; exact q
  · right; rw [Int32.le_iff_toInt_le, nI_toInt hn] at q; omega
set_option maxHeartbeats 4000000 in
set_option maxRecDepth 100000 in
theorem c_findN {κ : hz_C} {z : Nat} {M : hz_M} {H : ho_H} (hz : 63 + 34 * (hoN H).length ≤ z) (hnn : (hoN H).length ≤ 6) (hT4 : (hoT H).length ≤ 4000) {ll : Nat} {fr kn : Int32} (hR : hcR M z H ll fr kn) {v : Int32} {iD : Int64} {pl : Int32} (hv : v < 0 ∨ ¬ v < nI (hoN H).length) : hz_Mt κ xX11_find 1 0 0 [.ref 8, .int v, .long iD, .int pl] z M (hcP M z H (.int (-1)) H) := by
  refine hz_ent (lo := [(0, .ref 8), (1, .int v), (2, .long iD), (4, .int pl)]) (by decide) (Nat.le_of_ble_eq_true rfl) rfl ?_
  have hH := hR.1
  have hNs := hR.2.1
  obtain ⟨hO, hQ, hD⟩ := id hR.2.2.2.2.1
  obtain ⟨g53, h53⟩ := hR.2.2.2.2.2.1
  have hJ := hR.2.2.2.1
  obtain ⟨g56, h56, hT56⟩ := hR.2.2.2.2.2.2.2.2.2.1
  have hdf := hR.2.2.2.2.2.2.2.2.2.2
  have hck : ck_k M z := hJ.2.2.2.2.2.2.2.1
  have hcs : ck_s M := hJ.2.2.2.2.2.2.2.2.1
  have hz63 : 63 ≤ z := by omega
  refine hz_aloadn (pc := 0) 0 (hz_dec kX11_find 0 rfl) rfl ?_
  refine hz_iloadn (pc := 1) 1 (hz_dec kX11_find 1 rfl) rfl ?_
  refine hz_xV (pc := 2) (a := 8) (As := [.int v]) (st := []) (hz_dec kX11_find 2 rfl) co_X11_162 im_X11_nodeOf se_X11_nodeOf rfl hH (by omega) (by omega) (c_nOfN hz63 hH hnn hNs hv) rfl (by decide) ⟨Nat.le_refl _, Nat.le_refl _⟩ (Nat.le_of_ble_eq_true rfl) rfl ?_
  refine hz_astoreN (pc := 5) (i := 5) (lo2 := [(5, .null), (0, .ref 8), (1, .int v), (2, .long iD), (4, .int pl)]) (hz_dec kX11_find 3 rfl) (by decide) rfl ?_
  refine hz_aloadN (pc := 7) 0 (hz_dec kX11_find 4 rfl) rfl ?_
  refine hz_ifnonnullN (pc := 9) (hz_dec kX11_find 5 rfl) ?_
  refine hz_iconst (pc := 12) (v := (-1)) (hz_dec kX11_find 6 rfl) (by decide) ?_
  exact hz_iret (pc := 13) (hz_dec kX11_find 7 rfl) rfl (hcP.no hR _)
set_option maxHeartbeats 4000000 in
set_option maxRecDepth 100000 in
theorem c_rfindN {κ : hz_C} {z B : Nat} {M : hz_M} {H : ho_H} (hnn : (hoN H).length ≤ 6) (hT4 : (hoT H).length ≤ 4000) (hR : hmR M z B H) {v : Int32} {iD : Int64} {pl : Int32} (hv : v < 0 ∨ ¬ v < nI (hoN H).length) : hz_Mt κ xX12_find 4 0 0 [.ref B, .int v, .long iD, .int pl] z M (hmP M z B (.int (-1)) H) := by
  refine hz_ent (lo := [(0, .ref B), (1, .int v), (2, .long iD), (4, .int pl)]) (by decide) (Nat.le_of_ble_eq_true rfl) rfl ?_
  obtain ⟨hk0_, hE0, ⟨m1, m2, m3⟩, hNd, a5, a6, a7, a8⟩ := id hR
  obtain ⟨⟨fs, hO, hF⟩, -, -, h8, hz⟩ := id hk0_
  obtain ⟨x1, x3, x4, x5, x6, x7, x8⟩ := id m3
  refine hz_aloadn (pc := 0) 0 (hz_dec kX12_find 0 rfl) rfl ?_
  refine hz_iconst (pc := 1) (v := nI 0) (hz_dec kX12_find 1 rfl) (by decide) ?_
  refine hz_puti (pc := 2) (hz_dec kX12_find 2 rfl) fo_X12_302 ft_X12_0 hO h8 (by omega) (by rw [hF.1]; decide) ?_
  have hf1 : mfr B [0, 89] [] M (va_up M B (.inr (12, (List.set fs 0 (.int (nI 0)))))) := (mfr.rf ⟨fs, hO, hF⟩).upO (k := 0) hO hF rfl rfl
  have hR1 : hmR (va_up M B (.inr (12, (List.set fs 0 (.int (nI 0)))))) z B H := hR.m0 hf1 hE0.upO ((fdB_of (va_up_self _ _ _) 89).trans ((List.getElem?_set_ne (by decide)).trans ((fdB_of hO 89).symm.trans x8)))
  generalize (va_up M B (.inr (12, (List.set fs 0 (.int (nI 0)))))) = M1 at *
  obtain ⟨hk1, hE1, ⟨n1, d1, q1⟩, hNd1, a51, a61, a71, a81⟩ := id hR1
  obtain ⟨⟨fs1, hO1, hF1⟩, -, -, -, -⟩ := id hk1
  refine hz_aloadn (pc := 5) 0 (hz_dec kX12_find 3 rfl) rfl ?_
  refine hz_iloadn (pc := 6) 1 (hz_dec kX12_find 4 rfl) rfl ?_
  refine hz_xV (pc := 7) (a := B) (As := [.int v]) (st := []) (hz_dec kX12_find 5 rfl) co_X12_692 im_X12_stateOf se_X12_stateOf rfl hO1 h8 (by omega) (c_stN hnn hR1 hv) rfl (by decide) ⟨Nat.le_refl _, Nat.le_refl _⟩ (Nat.le_of_ble_eq_true rfl) rfl ?_
  refine hz_istore (pc := 10) (i := 5) (lo2 := [(5, .int (-1)), (0, .ref B), (1, .int v), (2, .long iD), (4, .int pl)]) (hz_dec kX12_find 6 rfl) (by decide) rfl ?_
  refine hz_iload (pc := 12) 0 (hz_dec kX12_find 7 rfl) rfl ?_
  refine hz_if_ge (pc := 14) (tgt := 20) (hz_dec kX12_find 8 rfl) (by decide) (fun hq1 => ?_) (fun hq1 => ?_)
  · skip
    exact absurd hq1 (by decide)
  · skip
    refine hz_iload (pc := 17) 0 (hz_dec kX12_find 9 rfl) rfl ?_
    exact hz_iret (pc := 19) (hz_dec kX12_find 10 rfl) rfl ⟨rfl, rfl, hf1.S rfl, hR1⟩
set_option maxHeartbeats 4000000 in
set_option maxRecDepth 100000 in
theorem c_findDw {κ : hz_C} {z : Nat} {M : hz_M} {H : ho_H} (hz : 63 + 34 * (hoN H).length ≤ z) (hnn : (hoN H).length ≤ 6) (hT4 : (hoT H).length ≤ 4000) {ll : Nat} {fr kn : Int32} (hR : hcR M z H ll fr kn) {v : Nat} (hv : v < (hoN H).length) {N : nd_N} (hN : ndL (hoN H) v = N) {iD : Int64} {pl : Int32} (hup : N.2.1 = false) : hz_Mt κ xX11_find 1 0 0 [.ref 8, .int (nI v), .long iD, .int pl] z M (hcP M z H (.int (-2)) H) := by
  refine hz_ent (lo := [(0, .ref 8), (1, .int (nI v)), (2, .long iD), (4, .int pl)]) (by decide) (Nat.le_of_ble_eq_true rfl) rfl ?_
  have hH := hR.1
  have hNs := hR.2.1
  obtain ⟨hO, hQ, hD⟩ := id hR.2.2.2.2.1
  obtain ⟨g53, h53⟩ := hR.2.2.2.2.2.1
  have hJ := hR.2.2.2.1
  obtain ⟨g56, h56, hT56⟩ := hR.2.2.2.2.2.2.2.2.2.1
  have hdf := hR.2.2.2.2.2.2.2.2.2.2
  have hck : ck_k M z := hJ.2.2.2.2.2.2.2.1
  have hcs : ck_s M := hJ.2.2.2.2.2.2.2.2.1
  have hz63 : 63 ≤ z := by omega
  have hK := hR.2.2.1 v hv
  rw [hN] at hK
  obtain ⟨hn, ⟨gd, hgd, hgD⟩, hT, hC, hP, hL⟩ := id hK
  have hn : M (63 + 34 * v) = ndO (63 + 34 * v) (nI v) (nI 0) (nI (ksN N.1)) (pvI (ksF N.1)) N.2.2.1 N.2.2.2 := by rw [hup] at hn; exact hn
  refine hz_aloadn (pc := 0) 0 (hz_dec kX11_find 0 rfl) rfl ?_
  refine hz_iloadn (pc := 1) 1 (hz_dec kX11_find 1 rfl) rfl ?_
  refine hz_xV (pc := 2) (a := 8) (As := [.int (nI v)]) (st := []) (hz_dec kX11_find 2 rfl) co_X11_162 im_X11_nodeOf se_X11_nodeOf rfl hH (by omega) (by omega) (c_nOf hz63 hH hnn hNs (b := v) hv) rfl (by decide) ⟨Nat.le_refl _, Nat.le_refl _⟩ (Nat.le_of_ble_eq_true rfl) rfl ?_
  refine hz_astore (pc := 5) (i := 5) (lo2 := [(5, .ref (63 + 34 * v)), (0, .ref 8), (1, .int (nI v)), (2, .long iD), (4, .int pl)]) (hz_dec kX11_find 3 rfl) (by decide) rfl ?_
  refine hz_aload (pc := 7) 0 (hz_dec kX11_find 4 rfl) rfl ?_
  refine hz_ifnonnull (pc := 9) (tgt := 14) (hz_dec kX11_find 5 rfl) (by decide) ?_
  refine hz_aload (pc := 14) 0 (hz_dec kX11_find 8 rfl) rfl ?_
  refine hz_get (pc := 16) (hz_dec kX11_find 9 rfl) fo_X11_166 hn (by omega) (by omega) rfl ?_
  refine hz_z_ne (pc := 19) (tgt := 25) (hz_dec kX11_find 10 rfl) (by decide) (by omega) (fun hq1 => ?_) (fun hq1 => ?_)
  · skip
    exact absurd hq1 (by decide)
  · skip
    refine hz_bipush (pc := 22) (v := (-2)) (hz_dec kX11_find 11 rfl) (by decide) ?_
    exact hz_iret (pc := 24) (hz_dec kX11_find 12 rfl) rfl (hcP.no hR _)
set_option maxHeartbeats 4000000 in
set_option maxRecDepth 100000 in
theorem c_rfindDw {κ : hz_C} {z B : Nat} {M : hz_M} {H : ho_H} (hnn : (hoN H).length ≤ 6) (hT4 : (hoT H).length ≤ 4000) (hR : hmR M z B H) {v : Nat} (hv : v < (hoN H).length) {N : nd_N} (hN : ndL (hoN H) v = N) {iD : Int64} {pl : Int32} (hup : N.2.1 = false) : hz_Mt κ xX12_find 4 0 0 [.ref B, .int (nI v), .long iD, .int pl] z M (hmP M z B (.int (-2)) H) := by
  refine hz_ent (lo := [(0, .ref B), (1, .int (nI v)), (2, .long iD), (4, .int pl)]) (by decide) (Nat.le_of_ble_eq_true rfl) rfl ?_
  obtain ⟨hk0_, hE0, ⟨m1, m2, m3⟩, hNd, a5, a6, a7, a8⟩ := id hR
  obtain ⟨⟨fs, hO, hF⟩, -, -, h8, hz⟩ := id hk0_
  obtain ⟨x1, x3, x4, x5, x6, x7, x8⟩ := id m3
  have eSt : stI (ndL (hoN H) v).2.1 = (-2) := by rw [hN, hup]; rfl
  refine hz_aloadn (pc := 0) 0 (hz_dec kX12_find 0 rfl) rfl ?_
  refine hz_iconst (pc := 1) (v := nI 0) (hz_dec kX12_find 1 rfl) (by decide) ?_
  refine hz_puti (pc := 2) (hz_dec kX12_find 2 rfl) fo_X12_302 ft_X12_0 hO h8 (by omega) (by rw [hF.1]; decide) ?_
  have hf1 : mfr B [0, 89] [] M (va_up M B (.inr (12, (List.set fs 0 (.int (nI 0)))))) := (mfr.rf ⟨fs, hO, hF⟩).upO (k := 0) hO hF rfl rfl
  have hR1 : hmR (va_up M B (.inr (12, (List.set fs 0 (.int (nI 0)))))) z B H := hR.m0 hf1 hE0.upO ((fdB_of (va_up_self _ _ _) 89).trans ((List.getElem?_set_ne (by decide)).trans ((fdB_of hO 89).symm.trans x8)))
  generalize (va_up M B (.inr (12, (List.set fs 0 (.int (nI 0)))))) = M1 at *
  obtain ⟨hk1, hE1, ⟨n1, d1, q1⟩, hNd1, a51, a61, a71, a81⟩ := id hR1
  obtain ⟨⟨fs1, hO1, hF1⟩, -, -, -, -⟩ := id hk1
  refine hz_aloadn (pc := 5) 0 (hz_dec kX12_find 3 rfl) rfl ?_
  refine hz_iloadn (pc := 6) 1 (hz_dec kX12_find 4 rfl) rfl ?_
  refine hz_xV (pc := 7) (a := B) (As := [.int (nI v)]) (st := []) (hz_dec kX12_find 5 rfl) co_X12_692 im_X12_stateOf se_X12_stateOf rfl hO1 h8 (by omega) (c_st hnn hR1 hv) rfl (by decide) ⟨Nat.le_refl _, Nat.le_refl _⟩ (Nat.le_of_ble_eq_true rfl) rfl ?_
  refine hz_eqi (pc := 10) eSt ?_
  refine hz_istore (pc := 10) (i := 5) (lo2 := [(5, .int (-2)), (0, .ref B), (1, .int (nI v)), (2, .long iD), (4, .int pl)]) (hz_dec kX12_find 6 rfl) (by decide) rfl ?_
  refine hz_iload (pc := 12) 0 (hz_dec kX12_find 7 rfl) rfl ?_
  refine hz_if_ge (pc := 14) (tgt := 20) (hz_dec kX12_find 8 rfl) (by decide) (fun hq1 => ?_) (fun hq1 => ?_)
  · skip
    exact absurd hq1 (by decide)
  · skip
    refine hz_iload (pc := 17) 0 (hz_dec kX12_find 9 rfl) rfl ?_
    exact hz_iret (pc := 19) (hz_dec kX12_find 10 rfl) rfl ⟨rfl, rfl, hf1.S rfl, hR1⟩
set_option maxHeartbeats 4000000 in
set_option maxRecDepth 100000 in
theorem c_find {κ : hz_C} {z : Nat} {M : hz_M} {H : ho_H} (hz : 63 + 34 * (hoN H).length ≤ z) (hnn : (hoN H).length ≤ 6) (hT4 : (hoT H).length ≤ 4000) {ll : Nat} {fr kn : Int32} (hR : hcR M z H ll fr kn) {v : Nat} (hv : v < (hoN H).length) {N : nd_N} (hN : ndL (hoN H) v = N) {iD : Int64} {pl : Int32} (hup : N.2.1 = true) (hI : ksI N.1) : hz_Mt κ xX11_find 1 0 0 [.ref 8, .int (nI v), .long iD, .int pl] z M (hcP M z H (.int (if ixI (coF (coAt (ksB N.1) (enB (ksB N.1)) (ksT N.1)) iD pl) (coAt (ksB N.1) (enB (ksB N.1)) (ksT N.1)).length < 0 then -4 else ixI (coF (coAt (ksB N.1) (enB (ksB N.1)) (ksT N.1)) iD pl) (coAt (ksB N.1) (enB (ksB N.1)) (ksT N.1)).length)) H) := by
  refine hz_ent (lo := [(0, .ref 8), (1, .int (nI v)), (2, .long iD), (4, .int pl)]) (by decide) (Nat.le_of_ble_eq_true rfl) rfl ?_
  have hH := hR.1
  have hNs := hR.2.1
  obtain ⟨hO, hQ, hD⟩ := id hR.2.2.2.2.1
  obtain ⟨g53, h53⟩ := hR.2.2.2.2.2.1
  have hJ := hR.2.2.2.1
  obtain ⟨g56, h56, hT56⟩ := hR.2.2.2.2.2.2.2.2.2.1
  have hdf := hR.2.2.2.2.2.2.2.2.2.2
  have hck : ck_k M z := hJ.2.2.2.2.2.2.2.1
  have hcs : ck_s M := hJ.2.2.2.2.2.2.2.2.1
  have hz63 : 63 ≤ z := by omega
  have hK := hR.2.2.1 v hv
  rw [hN] at hK
  obtain ⟨hn, ⟨gd, hgd, hgD⟩, hT, hC, hP, hL⟩ := id hK
  have hn : M (63 + 34 * v) = ndO (63 + 34 * v) (nI v) (nI 1) (nI (ksN N.1)) (pvI (ksF N.1)) N.2.2.1 N.2.2.2 := by rw [hup] at hn; exact hn
  obtain ⟨hcO, hcl, -, c1, c2, c3, c4, c5, c6, k1, k2, k3, k4, k5, k6, cX⟩ := id hC
  have hb5 := hI.2.1
  have hb113 := hI.1.top.2.1
  refine hz_aloadn (pc := 0) 0 (hz_dec kX11_find 0 rfl) rfl ?_
  refine hz_iloadn (pc := 1) 1 (hz_dec kX11_find 1 rfl) rfl ?_
  refine hz_xV (pc := 2) (a := 8) (As := [.int (nI v)]) (st := []) (hz_dec kX11_find 2 rfl) co_X11_162 im_X11_nodeOf se_X11_nodeOf rfl hH (by omega) (by omega) (c_nOf hz63 hH hnn hNs (b := v) hv) rfl (by decide) ⟨Nat.le_refl _, Nat.le_refl _⟩ (Nat.le_of_ble_eq_true rfl) rfl ?_
  refine hz_astore (pc := 5) (i := 5) (lo2 := [(5, .ref (63 + 34 * v)), (0, .ref 8), (1, .int (nI v)), (2, .long iD), (4, .int pl)]) (hz_dec kX11_find 3 rfl) (by decide) rfl ?_
  refine hz_aload (pc := 7) 0 (hz_dec kX11_find 4 rfl) rfl ?_
  refine hz_ifnonnull (pc := 9) (tgt := 14) (hz_dec kX11_find 5 rfl) (by decide) ?_
  refine hz_aload (pc := 14) 0 (hz_dec kX11_find 8 rfl) rfl ?_
  refine hz_get (pc := 16) (hz_dec kX11_find 9 rfl) fo_X11_166 hn (by omega) (by omega) rfl ?_
  refine hz_z_ne (pc := 19) (tgt := 25) (hz_dec kX11_find 10 rfl) (by decide) (by omega) (fun hq1 => ?_) (fun hq1 => ?_)
  · skip
    refine hz_aload (pc := 25) 0 (hz_dec kX11_find 13 rfl) rfl ?_
    refine hz_get (pc := 27) (hz_dec kX11_find 14 rfl) fo_X11_170 hn (by omega) (by omega) rfl ?_
    refine hz_lloadn (pc := 30) 3 (hz_dec kX11_find 15 rfl) rfl ?_
    refine hz_iload (pc := 31) 4 (hz_dec kX11_find 16 rfl) rfl ?_
    refine hz_xV (pc := 33) (a := 63 + 34 * v + 2) (As := [.long iD, .int pl]) (st := []) (hz_dec kX11_find 17 rfl) co_X11_421 im_X1_indexOf se_X1_indexOf rfl hcO (by omega) (by omega) (c_coIx hC (by omega) (by omega)) rfl (by decide) ⟨Nat.le_refl _, Nat.le_refl _⟩ (Nat.le_of_ble_eq_true rfl) rfl ?_
    refine hz_istore (pc := 36) (i := 6) (lo2 := [(6, .int (ixI (coF (coAt (ksB N.1) (enB (ksB N.1)) (ksT N.1)) iD pl) (coAt (ksB N.1) (enB (ksB N.1)) (ksT N.1)).length)), (5, .ref (63 + 34 * v)), (0, .ref 8), (1, .int (nI v)), (2, .long iD), (4, .int pl)]) (hz_dec kX11_find 18 rfl) (by decide) rfl ?_
    refine hz_iload (pc := 38) 0 (hz_dec kX11_find 19 rfl) rfl ?_
    refine hz_if_ge (pc := 40) (tgt := 48) (hz_dec kX11_find 20 rfl) (by decide) (fun h1 => ?_) (fun h1 => ?_)
    · skip
      have e8 := fu8p h1
      refine hz_iload (pc := 48) 0 (hz_dec kX11_find 23 rfl) rfl ?_
      exact hz_iret (pc := 50) (hz_dec kX11_find 24 rfl) rfl (by rw [e8]; exact hcP.no hR _)
    · skip
      have e8 := fu8n h1
      refine hz_bipush (pc := 43) (v := (-4)) (hz_dec kX11_find 21 rfl) (by decide) ?_
      refine hz_goto (pc := 45) (tgt := 50) (hz_dec kX11_find 22 rfl) (by decide) ?_
      exact hz_iret (pc := 50) (hz_dec kX11_find 24 rfl) rfl (by rw [e8]; exact hcP.no hR _)
  · skip
    exact absurd hq1 (by decide)
set_option maxHeartbeats 4000000 in
set_option maxRecDepth 100000 in
theorem c_rfind {κ : hz_C} {z B : Nat} {M : hz_M} {H : ho_H} (hnn : (hoN H).length ≤ 6) (hT4 : (hoT H).length ≤ 4000) (hR : hmR M z B H) {v : Nat} (hv : v < (hoN H).length) {N : nd_N} (hN : ndL (hoN H) v = N) {iD : Int64} {pl : Int32} (hup : N.2.1 = true) (hI : ksI N.1) : hz_Mt κ xX12_find 4 0 0 [.ref B, .int (nI v), .long iD, .int pl] z M (hmP M z B (.int (if ixI (coF (coAt (ksB N.1) (enB (ksB N.1)) (ksT N.1)) iD pl) (coAt (ksB N.1) (enB (ksB N.1)) (ksT N.1)).length < 0 then -4 else ixI (coF (coAt (ksB N.1) (enB (ksB N.1)) (ksT N.1)) iD pl) (coAt (ksB N.1) (enB (ksB N.1)) (ksT N.1)).length)) H) := by
  refine hz_ent (lo := [(0, .ref B), (1, .int (nI v)), (2, .long iD), (4, .int pl)]) (by decide) (Nat.le_of_ble_eq_true rfl) rfl ?_
  obtain ⟨hk0_, hE0, ⟨m1, m2, m3⟩, hNd, a5, a6, a7, a8⟩ := id hR
  obtain ⟨⟨fs, hO, hF⟩, -, -, h8, hz⟩ := id hk0_
  obtain ⟨x1, x3, x4, x5, x6, x7, x8⟩ := id m3
  have eSt : stI (ndL (hoN H) v).2.1 = nI 0 := by rw [hN, hup]; rfl
  refine hz_aloadn (pc := 0) 0 (hz_dec kX12_find 0 rfl) rfl ?_
  refine hz_iconst (pc := 1) (v := nI 0) (hz_dec kX12_find 1 rfl) (by decide) ?_
  refine hz_puti (pc := 2) (hz_dec kX12_find 2 rfl) fo_X12_302 ft_X12_0 hO h8 (by omega) (by rw [hF.1]; decide) ?_
  have hf1 : mfr B [0, 89] [] M (va_up M B (.inr (12, (List.set fs 0 (.int (nI 0)))))) := (mfr.rf ⟨fs, hO, hF⟩).upO (k := 0) hO hF rfl rfl
  have hR1 : hmR (va_up M B (.inr (12, (List.set fs 0 (.int (nI 0)))))) z B H := hR.m0 hf1 hE0.upO ((fdB_of (va_up_self _ _ _) 89).trans ((List.getElem?_set_ne (by decide)).trans ((fdB_of hO 89).symm.trans x8)))
  generalize (va_up M B (.inr (12, (List.set fs 0 (.int (nI 0)))))) = M1 at *
  obtain ⟨hk1, hE1, ⟨n1, d1, q1⟩, hNd1, a51, a61, a71, a81⟩ := id hR1
  obtain ⟨⟨fs1, hO1, hF1⟩, -, -, -, -⟩ := id hk1
  have h0 : mdN M1 B v N := by have q := hNd1 v hv; rw [hN] at q; exact q
  have hv6 : v < 6 := by omega
  have h01 : mnS M1 B v 1 N.1 (pvI (ksF N.1)) (ksP N.1) := by have q := h0.1; rw [hup] at q; exact q
  have h02 : orX (fA M1 B) v (mkO (ksL N.1)) := by have q := h0.2.1; rw [hup] at q; exact q
  obtain ⟨p1, p2, p3, p4, ⟨p5a, p5b, p5c⟩, p6, p7, p9⟩ := id h01
  have hbp := hI.1.p hI.2.1
  obtain ⟨b1, b2, b3, b4, b5, b6, b7, b8⟩ := id hbp
  refine hz_aloadn (pc := 5) 0 (hz_dec kX12_find 3 rfl) rfl ?_
  refine hz_iloadn (pc := 6) 1 (hz_dec kX12_find 4 rfl) rfl ?_
  refine hz_xV (pc := 7) (a := B) (As := [.int (nI v)]) (st := []) (hz_dec kX12_find 5 rfl) co_X12_692 im_X12_stateOf se_X12_stateOf rfl hO1 h8 (by omega) (c_st hnn hR1 hv) rfl (by decide) ⟨Nat.le_refl _, Nat.le_refl _⟩ (Nat.le_of_ble_eq_true rfl) rfl ?_
  refine hz_eqi (pc := 10) eSt ?_
  refine hz_istore (pc := 10) (i := 5) (lo2 := [(5, .int (nI 0)), (0, .ref B), (1, .int (nI v)), (2, .long iD), (4, .int pl)]) (hz_dec kX12_find 6 rfl) (by decide) rfl ?_
  refine hz_iload (pc := 12) 0 (hz_dec kX12_find 7 rfl) rfl ?_
  refine hz_z_ge (pc := 14) (tgt := 20) (hz_dec kX12_find 8 rfl) (by decide) (by omega) ?_
  refine hz_aloadn (pc := 20) 1 (hz_dec kX12_find 11 rfl) rfl ?_
  refine hz_iloadn (pc := 21) 2 (hz_dec kX12_find 12 rfl) rfl ?_
  refine hz_aloadn (pc := 22) 1 (hz_dec kX12_find 13 rfl) rfl ?_
  refine hz_get (pc := 23) (v := .ref (B + 21)) (hz_dec kX12_find 14 rfl) fo_X12_74 hO1 h8 (by omega) (hF1.2 23 (by decide) (by decide)) ?_
  refine hz_iloadn (pc := 26) 2 (hz_dec kX12_find 15 rfl) rfl ?_
  refine hz_iald (pc := 27) (j := v) (hz_dec kX12_find 16 rfl) hE1.a21 (by omega) (by omega) rfl (by omega) (by decide) ?_
  refine hz_eqi (pc := 28) p5b.2.1 ?_
  refine hz_callV (pc := 28) (a := B) (As := [.int (nI v), .int (nI (ksT N.1))]) (st := []) (hz_dec kX12_find 17 rfl) co_X12_553 im_X12_unspentBehind se_X12_unspentBehind rfl hO1 h8 (by omega) (c_unR hR1 hnn hv hN hI) rfl (by decide) ⟨Nat.le_refl _, Nat.le_refl _⟩ (Nat.le_of_ble_eq_true rfl) rfl (fun r9 z9 M2 hp9 => ?_)
  obtain ⟨rfl, rfl, hu2, hR2, hc2⟩ := hp9
  obtain ⟨hmO, h53, hcl, c1, c2, c3, c4, c5, c6, k1, k2, k3, k4, k5, k6, cX⟩ := id hc2
  obtain ⟨fs2, hO2, hF2⟩ := hmO
  have g53 : fs2[53]? = some (.int (nI (coAt (ksB N.1) (enB (ksB N.1)) (ksT N.1)).length)) := (fdB_of hO2 53).symm.trans h53
  refine hz_aloadn (pc := 31) 1 (hz_dec kX12_find 18 rfl) rfl ?_
  refine hz_lloadn (pc := 32) 3 (hz_dec kX12_find 19 rfl) rfl ?_
  refine hz_iload (pc := 33) 4 (hz_dec kX12_find 20 rfl) rfl ?_
  refine hz_xV (pc := 35) (a := B) (As := [.long iD, .int pl]) (st := []) (hz_dec kX12_find 21 rfl) co_X12_488 im_X12_findCoin se_X12_findCoin rfl hO2 h8 (by omega) (c_mcIx hc2 h8 hz) rfl (by decide) ⟨Nat.le_refl _, Nat.le_refl _⟩ (Nat.le_of_ble_eq_true rfl) rfl ?_
  refine hz_istore (pc := 38) (i := 6) (lo2 := [(6, .int (ixI (coF (coAt (ksB N.1) (enB (ksB N.1)) (ksT N.1)) iD pl) (coAt (ksB N.1) (enB (ksB N.1)) (ksT N.1)).length)), (5, .int (nI 0)), (0, .ref B), (1, .int (nI v)), (2, .long iD), (4, .int pl)]) (hz_dec kX12_find 22 rfl) (by decide) rfl ?_
  refine hz_iload (pc := 40) 0 (hz_dec kX12_find 23 rfl) rfl ?_
  refine hz_if_ge (pc := 42) (tgt := 50) (hz_dec kX12_find 24 rfl) (by decide) (fun h1 => ?_) (fun h1 => ?_)
  · skip
    have e8 := fu8p h1
    refine hz_iload (pc := 50) 0 (hz_dec kX12_find 27 rfl) rfl ?_
    exact hz_iret (pc := 52) (hz_dec kX12_find 28 rfl) rfl ⟨by rw [e8], rfl, (hf1.S rfl).tr (hu2.S rfl), hR2⟩
  · skip
    have e8 := fu8n h1
    refine hz_bipush (pc := 45) (v := (-4)) (hz_dec kX12_find 25 rfl) (by decide) ?_
    refine hz_goto (pc := 47) (tgt := 52) (hz_dec kX12_find 26 rfl) (by decide) ?_
    exact hz_iret (pc := 52) (hz_dec kX12_find 28 rfl) rfl ⟨by rw [e8], rfl, (hf1.S rfl).tr (hu2.S rfl), hR2⟩
set_option maxHeartbeats 4000000 in
set_option maxRecDepth 100000 in
theorem c_spendN {κ : hz_C} {z : Nat} {M : hz_M} {H : ho_H} (hz : 63 + 34 * (hoN H).length ≤ z) (hnn : (hoN H).length ≤ 6) (hT4 : (hoT H).length ≤ 4000) {ll : Nat} {fr kn : Int32} (hR : hcR M z H ll fr kn) {v : Int32} {i : Int32} {sd : Int64} (hv : v < 0 ∨ ¬ v < nI (hoN H).length) : hz_Mt κ xX11_spend 1 0 0 [.ref 8, .int v, .int i, .long sd] z M (hcP M z H (.int (-1)) H) := by
  refine hz_ent (lo := [(0, .ref 8), (1, .int v), (2, .int i), (3, .long sd)]) (by decide) (Nat.le_of_ble_eq_true rfl) rfl ?_
  have hH := hR.1
  have hNs := hR.2.1
  obtain ⟨hO, hQ, hD⟩ := id hR.2.2.2.2.1
  obtain ⟨g53, h53⟩ := hR.2.2.2.2.2.1
  have hJ := hR.2.2.2.1
  obtain ⟨g56, h56, hT56⟩ := hR.2.2.2.2.2.2.2.2.2.1
  have hdf := hR.2.2.2.2.2.2.2.2.2.2
  have hck : ck_k M z := hJ.2.2.2.2.2.2.2.1
  have hcs : ck_s M := hJ.2.2.2.2.2.2.2.2.1
  have hz63 : 63 ≤ z := by omega
  refine hz_aloadn (pc := 0) 0 (hz_dec kX11_spend 0 rfl) rfl ?_
  refine hz_iloadn (pc := 1) 1 (hz_dec kX11_spend 1 rfl) rfl ?_
  refine hz_xV (pc := 2) (a := 8) (As := [.int v]) (st := []) (hz_dec kX11_spend 2 rfl) co_X11_162 im_X11_nodeOf se_X11_nodeOf rfl hH (by omega) (by omega) (c_nOfN hz63 hH hnn hNs hv) rfl (by decide) ⟨Nat.le_refl _, Nat.le_refl _⟩ (Nat.le_of_ble_eq_true rfl) rfl ?_
  refine hz_astoreN (pc := 5) (i := 5) (lo2 := [(5, .null), (0, .ref 8), (1, .int v), (2, .int i), (3, .long sd)]) (hz_dec kX11_spend 3 rfl) (by decide) rfl ?_
  refine hz_aloadN (pc := 7) 0 (hz_dec kX11_spend 4 rfl) rfl ?_
  refine hz_ifnonnullN (pc := 9) (hz_dec kX11_spend 5 rfl) ?_
  refine hz_iconst (pc := 12) (v := (-1)) (hz_dec kX11_spend 6 rfl) (by decide) ?_
  exact hz_iret (pc := 13) (hz_dec kX11_spend 7 rfl) rfl (hcP.no hR _)
set_option maxHeartbeats 4000000 in
set_option maxRecDepth 100000 in
theorem c_rspendN {κ : hz_C} {z B : Nat} {M : hz_M} {H : ho_H} (hnn : (hoN H).length ≤ 6) (hT4 : (hoT H).length ≤ 4000) (hR : hmR M z B H) {v : Int32} {i : Int32} {sd : Int64} (hv : v < 0 ∨ ¬ v < nI (hoN H).length) : hz_Mt κ xX12_spend 4 0 0 [.ref B, .int v, .int i, .long sd] z M (hmP M z B (.int (-1)) H) := by
  refine hz_ent (lo := [(0, .ref B), (1, .int v), (2, .int i), (3, .long sd)]) (by decide) (Nat.le_of_ble_eq_true rfl) rfl ?_
  obtain ⟨hk0_, hE0, ⟨m1, m2, m3⟩, hNd, a5, a6, a7, a8⟩ := id hR
  obtain ⟨⟨fs, hO, hF⟩, -, -, h8, hz⟩ := id hk0_
  obtain ⟨x1, x3, x4, x5, x6, x7, x8⟩ := id m3
  refine hz_aloadn (pc := 0) 0 (hz_dec kX12_spend 0 rfl) rfl ?_
  refine hz_iconst (pc := 1) (v := nI 0) (hz_dec kX12_spend 1 rfl) (by decide) ?_
  refine hz_puti (pc := 2) (hz_dec kX12_spend 2 rfl) fo_X12_302 ft_X12_0 hO h8 (by omega) (by rw [hF.1]; decide) ?_
  have hf1 : mfr B [0, 89] [] M (va_up M B (.inr (12, (List.set fs 0 (.int (nI 0)))))) := (mfr.rf ⟨fs, hO, hF⟩).upO (k := 0) hO hF rfl rfl
  have hR1 : hmR (va_up M B (.inr (12, (List.set fs 0 (.int (nI 0)))))) z B H := hR.m0 hf1 hE0.upO ((fdB_of (va_up_self _ _ _) 89).trans ((List.getElem?_set_ne (by decide)).trans ((fdB_of hO 89).symm.trans x8)))
  generalize (va_up M B (.inr (12, (List.set fs 0 (.int (nI 0)))))) = M1 at *
  obtain ⟨hk1, hE1, ⟨n1, d1, q1⟩, hNd1, a51, a61, a71, a81⟩ := id hR1
  obtain ⟨⟨fs1, hO1, hF1⟩, -, -, -, -⟩ := id hk1
  refine hz_aloadn (pc := 5) 0 (hz_dec kX12_spend 3 rfl) rfl ?_
  refine hz_iloadn (pc := 6) 1 (hz_dec kX12_spend 4 rfl) rfl ?_
  refine hz_xV (pc := 7) (a := B) (As := [.int v]) (st := []) (hz_dec kX12_spend 5 rfl) co_X12_692 im_X12_stateOf se_X12_stateOf rfl hO1 h8 (by omega) (c_stN hnn hR1 hv) rfl (by decide) ⟨Nat.le_refl _, Nat.le_refl _⟩ (Nat.le_of_ble_eq_true rfl) rfl ?_
  refine hz_istore (pc := 10) (i := 5) (lo2 := [(5, .int (-1)), (0, .ref B), (1, .int v), (2, .int i), (3, .long sd)]) (hz_dec kX12_spend 6 rfl) (by decide) rfl ?_
  refine hz_iload (pc := 12) 0 (hz_dec kX12_spend 7 rfl) rfl ?_
  refine hz_if_ge (pc := 14) (tgt := 20) (hz_dec kX12_spend 8 rfl) (by decide) (fun hq1 => ?_) (fun hq1 => ?_)
  · skip
    exact absurd hq1 (by decide)
  · skip
    refine hz_iload (pc := 17) 0 (hz_dec kX12_spend 9 rfl) rfl ?_
    exact hz_iret (pc := 19) (hz_dec kX12_spend 10 rfl) rfl ⟨rfl, rfl, hf1.S rfl, hR1⟩
set_option maxHeartbeats 4000000 in
set_option maxRecDepth 100000 in
theorem c_spendD {κ : hz_C} {z : Nat} {M : hz_M} {H : ho_H} (hz : 63 + 34 * (hoN H).length ≤ z) (hnn : (hoN H).length ≤ 6) (hT4 : (hoT H).length ≤ 4000) {ll : Nat} {fr kn : Int32} (hR : hcR M z H ll fr kn) {v : Nat} (hv : v < (hoN H).length) {N : nd_N} (hN : ndL (hoN H) v = N) {i : Int32} {sd : Int64} (hup : N.2.1 = false) : hz_Mt κ xX11_spend 1 0 0 [.ref 8, .int (nI v), .int i, .long sd] z M (hcP M z H (.int (-2)) H) := by
  refine hz_ent (lo := [(0, .ref 8), (1, .int (nI v)), (2, .int i), (3, .long sd)]) (by decide) (Nat.le_of_ble_eq_true rfl) rfl ?_
  have hH := hR.1
  have hNs := hR.2.1
  obtain ⟨hO, hQ, hD⟩ := id hR.2.2.2.2.1
  obtain ⟨g53, h53⟩ := hR.2.2.2.2.2.1
  have hJ := hR.2.2.2.1
  obtain ⟨g56, h56, hT56⟩ := hR.2.2.2.2.2.2.2.2.2.1
  have hdf := hR.2.2.2.2.2.2.2.2.2.2
  have hck : ck_k M z := hJ.2.2.2.2.2.2.2.1
  have hcs : ck_s M := hJ.2.2.2.2.2.2.2.2.1
  have hz63 : 63 ≤ z := by omega
  have hK := hR.2.2.1 v hv
  rw [hN] at hK
  obtain ⟨hn, ⟨gd, hgd, hgD⟩, hT, hC, hP, hL⟩ := id hK
  have hn : M (63 + 34 * v) = ndO (63 + 34 * v) (nI v) (nI 0) (nI (ksN N.1)) (pvI (ksF N.1)) N.2.2.1 N.2.2.2 := by rw [hup] at hn; exact hn
  refine hz_aloadn (pc := 0) 0 (hz_dec kX11_spend 0 rfl) rfl ?_
  refine hz_iloadn (pc := 1) 1 (hz_dec kX11_spend 1 rfl) rfl ?_
  refine hz_xV (pc := 2) (a := 8) (As := [.int (nI v)]) (st := []) (hz_dec kX11_spend 2 rfl) co_X11_162 im_X11_nodeOf se_X11_nodeOf rfl hH (by omega) (by omega) (c_nOf hz63 hH hnn hNs (b := v) hv) rfl (by decide) ⟨Nat.le_refl _, Nat.le_refl _⟩ (Nat.le_of_ble_eq_true rfl) rfl ?_
  refine hz_astore (pc := 5) (i := 5) (lo2 := [(5, .ref (63 + 34 * v)), (0, .ref 8), (1, .int (nI v)), (2, .int i), (3, .long sd)]) (hz_dec kX11_spend 3 rfl) (by decide) rfl ?_
  refine hz_aload (pc := 7) 0 (hz_dec kX11_spend 4 rfl) rfl ?_
  refine hz_ifnonnull (pc := 9) (tgt := 14) (hz_dec kX11_spend 5 rfl) (by decide) ?_
  refine hz_aload (pc := 14) 0 (hz_dec kX11_spend 8 rfl) rfl ?_
  refine hz_get (pc := 16) (hz_dec kX11_spend 9 rfl) fo_X11_166 hn (by omega) (by omega) rfl ?_
  refine hz_z_ne (pc := 19) (tgt := 25) (hz_dec kX11_spend 10 rfl) (by decide) (by omega) (fun hq1 => ?_) (fun hq1 => ?_)
  · skip
    exact absurd hq1 (by decide)
  · skip
    refine hz_bipush (pc := 22) (v := (-2)) (hz_dec kX11_spend 11 rfl) (by decide) ?_
    exact hz_iret (pc := 24) (hz_dec kX11_spend 12 rfl) rfl (hcP.no hR _)
set_option maxHeartbeats 4000000 in
set_option maxRecDepth 100000 in
theorem c_rspendD {κ : hz_C} {z B : Nat} {M : hz_M} {H : ho_H} (hnn : (hoN H).length ≤ 6) (hT4 : (hoT H).length ≤ 4000) (hR : hmR M z B H) {v : Nat} (hv : v < (hoN H).length) {N : nd_N} (hN : ndL (hoN H) v = N) {i : Int32} {sd : Int64} (hup : N.2.1 = false) : hz_Mt κ xX12_spend 4 0 0 [.ref B, .int (nI v), .int i, .long sd] z M (hmP M z B (.int (-2)) H) := by
  refine hz_ent (lo := [(0, .ref B), (1, .int (nI v)), (2, .int i), (3, .long sd)]) (by decide) (Nat.le_of_ble_eq_true rfl) rfl ?_
  obtain ⟨hk0_, hE0, ⟨m1, m2, m3⟩, hNd, a5, a6, a7, a8⟩ := id hR
  obtain ⟨⟨fs, hO, hF⟩, -, -, h8, hz⟩ := id hk0_
  obtain ⟨x1, x3, x4, x5, x6, x7, x8⟩ := id m3
  have eSt : stI (ndL (hoN H) v).2.1 = (-2) := by rw [hN, hup]; rfl
  refine hz_aloadn (pc := 0) 0 (hz_dec kX12_spend 0 rfl) rfl ?_
  refine hz_iconst (pc := 1) (v := nI 0) (hz_dec kX12_spend 1 rfl) (by decide) ?_
  refine hz_puti (pc := 2) (hz_dec kX12_spend 2 rfl) fo_X12_302 ft_X12_0 hO h8 (by omega) (by rw [hF.1]; decide) ?_
  have hf1 : mfr B [0, 89] [] M (va_up M B (.inr (12, (List.set fs 0 (.int (nI 0)))))) := (mfr.rf ⟨fs, hO, hF⟩).upO (k := 0) hO hF rfl rfl
  have hR1 : hmR (va_up M B (.inr (12, (List.set fs 0 (.int (nI 0)))))) z B H := hR.m0 hf1 hE0.upO ((fdB_of (va_up_self _ _ _) 89).trans ((List.getElem?_set_ne (by decide)).trans ((fdB_of hO 89).symm.trans x8)))
  generalize (va_up M B (.inr (12, (List.set fs 0 (.int (nI 0)))))) = M1 at *
  obtain ⟨hk1, hE1, ⟨n1, d1, q1⟩, hNd1, a51, a61, a71, a81⟩ := id hR1
  obtain ⟨⟨fs1, hO1, hF1⟩, -, -, -, -⟩ := id hk1
  refine hz_aloadn (pc := 5) 0 (hz_dec kX12_spend 3 rfl) rfl ?_
  refine hz_iloadn (pc := 6) 1 (hz_dec kX12_spend 4 rfl) rfl ?_
  refine hz_xV (pc := 7) (a := B) (As := [.int (nI v)]) (st := []) (hz_dec kX12_spend 5 rfl) co_X12_692 im_X12_stateOf se_X12_stateOf rfl hO1 h8 (by omega) (c_st hnn hR1 hv) rfl (by decide) ⟨Nat.le_refl _, Nat.le_refl _⟩ (Nat.le_of_ble_eq_true rfl) rfl ?_
  refine hz_eqi (pc := 10) eSt ?_
  refine hz_istore (pc := 10) (i := 5) (lo2 := [(5, .int (-2)), (0, .ref B), (1, .int (nI v)), (2, .int i), (3, .long sd)]) (hz_dec kX12_spend 6 rfl) (by decide) rfl ?_
  refine hz_iload (pc := 12) 0 (hz_dec kX12_spend 7 rfl) rfl ?_
  refine hz_if_ge (pc := 14) (tgt := 20) (hz_dec kX12_spend 8 rfl) (by decide) (fun hq1 => ?_) (fun hq1 => ?_)
  · skip
    exact absurd hq1 (by decide)
  · skip
    refine hz_iload (pc := 17) 0 (hz_dec kX12_spend 9 rfl) rfl ?_
    exact hz_iret (pc := 19) (hz_dec kX12_spend 10 rfl) rfl ⟨rfl, rfl, hf1.S rfl, hR1⟩
set_option maxHeartbeats 4000000 in
set_option maxRecDepth 100000 in
theorem c_spendI {κ : hz_C} {z : Nat} {M : hz_M} {H : ho_H} (hz : 63 + 34 * (hoN H).length ≤ z) (hnn : (hoN H).length ≤ 6) (hT4 : (hoT H).length ≤ 4000) {ll : Nat} {fr kn : Int32} (hR : hcR M z H ll fr kn) {v : Nat} (hv : v < (hoN H).length) {N : nd_N} (hN : ndL (hoN H) v = N) {i : Int32} {sd : Int64} (hup : N.2.1 = true) (hI : ksI N.1) (hi : i < 0 ∨ ¬ i < nI (coAt (ksB N.1) (enB (ksB N.1)) (ksT N.1)).length) : hz_Mt κ xX11_spend 1 0 0 [.ref 8, .int (nI v), .int i, .long sd] z M (hcP M z H (.int (-1)) H) := by
  refine hz_ent (lo := [(0, .ref 8), (1, .int (nI v)), (2, .int i), (3, .long sd)]) (by decide) (Nat.le_of_ble_eq_true rfl) rfl ?_
  have hH := hR.1
  have hNs := hR.2.1
  obtain ⟨hO, hQ, hD⟩ := id hR.2.2.2.2.1
  obtain ⟨g53, h53⟩ := hR.2.2.2.2.2.1
  have hJ := hR.2.2.2.1
  obtain ⟨g56, h56, hT56⟩ := hR.2.2.2.2.2.2.2.2.2.1
  have hdf := hR.2.2.2.2.2.2.2.2.2.2
  have hck : ck_k M z := hJ.2.2.2.2.2.2.2.1
  have hcs : ck_s M := hJ.2.2.2.2.2.2.2.2.1
  have hz63 : 63 ≤ z := by omega
  have hK := hR.2.2.1 v hv
  rw [hN] at hK
  obtain ⟨hn, ⟨gd, hgd, hgD⟩, hT, hC, hP, hL⟩ := id hK
  have hn : M (63 + 34 * v) = ndO (63 + 34 * v) (nI v) (nI 1) (nI (ksN N.1)) (pvI (ksF N.1)) N.2.2.1 N.2.2.2 := by rw [hup] at hn; exact hn
  obtain ⟨hcO, hcl, -, c1, c2, c3, c4, c5, c6, k1, k2, k3, k4, k5, k6, cX⟩ := id hC
  have hb5 := hI.2.1
  have hb113 := hI.1.top.2.1
  refine hz_aloadn (pc := 0) 0 (hz_dec kX11_spend 0 rfl) rfl ?_
  refine hz_iloadn (pc := 1) 1 (hz_dec kX11_spend 1 rfl) rfl ?_
  refine hz_xV (pc := 2) (a := 8) (As := [.int (nI v)]) (st := []) (hz_dec kX11_spend 2 rfl) co_X11_162 im_X11_nodeOf se_X11_nodeOf rfl hH (by omega) (by omega) (c_nOf hz63 hH hnn hNs (b := v) hv) rfl (by decide) ⟨Nat.le_refl _, Nat.le_refl _⟩ (Nat.le_of_ble_eq_true rfl) rfl ?_
  refine hz_astore (pc := 5) (i := 5) (lo2 := [(5, .ref (63 + 34 * v)), (0, .ref 8), (1, .int (nI v)), (2, .int i), (3, .long sd)]) (hz_dec kX11_spend 3 rfl) (by decide) rfl ?_
  refine hz_aload (pc := 7) 0 (hz_dec kX11_spend 4 rfl) rfl ?_
  refine hz_ifnonnull (pc := 9) (tgt := 14) (hz_dec kX11_spend 5 rfl) (by decide) ?_
  refine hz_aload (pc := 14) 0 (hz_dec kX11_spend 8 rfl) rfl ?_
  refine hz_get (pc := 16) (hz_dec kX11_spend 9 rfl) fo_X11_166 hn (by omega) (by omega) rfl ?_
  refine hz_z_ne (pc := 19) (tgt := 25) (hz_dec kX11_spend 10 rfl) (by decide) (by omega) (fun hq1 => ?_) (fun hq1 => ?_)
  · skip
    refine hz_iloadn (pc := 25) 3 (hz_dec kX11_spend 13 rfl) rfl ?_
    refine hz_if_lt (pc := 26) (tgt := 41) (hz_dec kX11_spend 14 rfl) (by decide) (fun h1 => ?_) (fun h1 => ?_)
    · skip
      refine hz_iconst (pc := 41) (v := (-1)) (hz_dec kX11_spend 20 rfl) (by decide) ?_
      exact hz_iret (pc := 42) (hz_dec kX11_spend 21 rfl) rfl (hcP.no hR _)
    · skip
      refine hz_iloadn (pc := 29) 3 (hz_dec kX11_spend 15 rfl) rfl ?_
      refine hz_aload (pc := 30) 0 (hz_dec kX11_spend 16 rfl) rfl ?_
      refine hz_get (pc := 32) (hz_dec kX11_spend 17 rfl) fo_X11_170 hn (by omega) (by omega) rfl ?_
      refine hz_get (pc := 35) (hz_dec kX11_spend 18 rfl) fo_X11_174 hcO (by omega) (by omega) rfl ?_
      refine hz_icmp_lt (pc := 38) (tgt := 43) (hz_dec kX11_spend 19 rfl) (by decide) (fun h2 => ?_) (fun h2 => ?_)
      · skip
        exact absurd h2 (hi.resolve_left h1)
      · skip
        refine hz_iconst (pc := 41) (v := (-1)) (hz_dec kX11_spend 20 rfl) (by decide) ?_
        exact hz_iret (pc := 42) (hz_dec kX11_spend 21 rfl) rfl (hcP.no hR _)
  · skip
    exact absurd hq1 (by decide)
set_option maxHeartbeats 4000000 in
set_option maxRecDepth 100000 in
theorem c_rspendI {κ : hz_C} {z B : Nat} {M : hz_M} {H : ho_H} (hnn : (hoN H).length ≤ 6) (hT4 : (hoT H).length ≤ 4000) (hR : hmR M z B H) {v : Nat} (hv : v < (hoN H).length) {N : nd_N} (hN : ndL (hoN H) v = N) {i : Int32} {sd : Int64} (hup : N.2.1 = true) (hI : ksI N.1) (hi : i < 0 ∨ ¬ i < nI (coAt (ksB N.1) (enB (ksB N.1)) (ksT N.1)).length) : hz_Mt κ xX12_spend 4 0 0 [.ref B, .int (nI v), .int i, .long sd] z M (hmP M z B (.int (-1)) H) := by
  refine hz_ent (lo := [(0, .ref B), (1, .int (nI v)), (2, .int i), (3, .long sd)]) (by decide) (Nat.le_of_ble_eq_true rfl) rfl ?_
  obtain ⟨hk0_, hE0, ⟨m1, m2, m3⟩, hNd, a5, a6, a7, a8⟩ := id hR
  obtain ⟨⟨fs, hO, hF⟩, -, -, h8, hz⟩ := id hk0_
  obtain ⟨x1, x3, x4, x5, x6, x7, x8⟩ := id m3
  have eSt : stI (ndL (hoN H) v).2.1 = nI 0 := by rw [hN, hup]; rfl
  refine hz_aloadn (pc := 0) 0 (hz_dec kX12_spend 0 rfl) rfl ?_
  refine hz_iconst (pc := 1) (v := nI 0) (hz_dec kX12_spend 1 rfl) (by decide) ?_
  refine hz_puti (pc := 2) (hz_dec kX12_spend 2 rfl) fo_X12_302 ft_X12_0 hO h8 (by omega) (by rw [hF.1]; decide) ?_
  have hf1 : mfr B [0, 89] [] M (va_up M B (.inr (12, (List.set fs 0 (.int (nI 0)))))) := (mfr.rf ⟨fs, hO, hF⟩).upO (k := 0) hO hF rfl rfl
  have hR1 : hmR (va_up M B (.inr (12, (List.set fs 0 (.int (nI 0)))))) z B H := hR.m0 hf1 hE0.upO ((fdB_of (va_up_self _ _ _) 89).trans ((List.getElem?_set_ne (by decide)).trans ((fdB_of hO 89).symm.trans x8)))
  generalize (va_up M B (.inr (12, (List.set fs 0 (.int (nI 0)))))) = M1 at *
  obtain ⟨hk1, hE1, ⟨n1, d1, q1⟩, hNd1, a51, a61, a71, a81⟩ := id hR1
  obtain ⟨⟨fs1, hO1, hF1⟩, -, -, -, -⟩ := id hk1
  have h0 : mdN M1 B v N := by have q := hNd1 v hv; rw [hN] at q; exact q
  have hv6 : v < 6 := by omega
  have h01 : mnS M1 B v 1 N.1 (pvI (ksF N.1)) (ksP N.1) := by have q := h0.1; rw [hup] at q; exact q
  have h02 : orX (fA M1 B) v (mkO (ksL N.1)) := by have q := h0.2.1; rw [hup] at q; exact q
  obtain ⟨p1, p2, p3, p4, ⟨p5a, p5b, p5c⟩, p6, p7, p9⟩ := id h01
  have hbp := hI.1.p hI.2.1
  obtain ⟨b1, b2, b3, b4, b5, b6, b7, b8⟩ := id hbp
  refine hz_aloadn (pc := 5) 0 (hz_dec kX12_spend 3 rfl) rfl ?_
  refine hz_iloadn (pc := 6) 1 (hz_dec kX12_spend 4 rfl) rfl ?_
  refine hz_xV (pc := 7) (a := B) (As := [.int (nI v)]) (st := []) (hz_dec kX12_spend 5 rfl) co_X12_692 im_X12_stateOf se_X12_stateOf rfl hO1 h8 (by omega) (c_st hnn hR1 hv) rfl (by decide) ⟨Nat.le_refl _, Nat.le_refl _⟩ (Nat.le_of_ble_eq_true rfl) rfl ?_
  refine hz_eqi (pc := 10) eSt ?_
  refine hz_istore (pc := 10) (i := 5) (lo2 := [(5, .int (nI 0)), (0, .ref B), (1, .int (nI v)), (2, .int i), (3, .long sd)]) (hz_dec kX12_spend 6 rfl) (by decide) rfl ?_
  refine hz_iload (pc := 12) 0 (hz_dec kX12_spend 7 rfl) rfl ?_
  refine hz_z_ge (pc := 14) (tgt := 20) (hz_dec kX12_spend 8 rfl) (by decide) (by omega) ?_
  refine hz_aloadn (pc := 20) 1 (hz_dec kX12_spend 11 rfl) rfl ?_
  refine hz_iloadn (pc := 21) 2 (hz_dec kX12_spend 12 rfl) rfl ?_
  refine hz_aloadn (pc := 22) 1 (hz_dec kX12_spend 13 rfl) rfl ?_
  refine hz_get (pc := 23) (v := .ref (B + 21)) (hz_dec kX12_spend 14 rfl) fo_X12_74 hO1 h8 (by omega) (hF1.2 23 (by decide) (by decide)) ?_
  refine hz_iloadn (pc := 26) 2 (hz_dec kX12_spend 15 rfl) rfl ?_
  refine hz_iald (pc := 27) (j := v) (hz_dec kX12_spend 16 rfl) hE1.a21 (by omega) (by omega) rfl (by omega) (by decide) ?_
  refine hz_eqi (pc := 28) p5b.2.1 ?_
  refine hz_callV (pc := 28) (a := B) (As := [.int (nI v), .int (nI (ksT N.1))]) (st := []) (hz_dec kX12_spend 17 rfl) co_X12_553 im_X12_unspentBehind se_X12_unspentBehind rfl hO1 h8 (by omega) (c_unR hR1 hnn hv hN hI) rfl (by decide) ⟨Nat.le_refl _, Nat.le_refl _⟩ (Nat.le_of_ble_eq_true rfl) rfl (fun r9 z9 M2 hp9 => ?_)
  obtain ⟨rfl, rfl, hu2, hR2, hc2⟩ := hp9
  obtain ⟨hmO, h53, hcl, c1, c2, c3, c4, c5, c6, k1, k2, k3, k4, k5, k6, cX⟩ := id hc2
  obtain ⟨fs2, hO2, hF2⟩ := hmO
  have g53 : fs2[53]? = some (.int (nI (coAt (ksB N.1) (enB (ksB N.1)) (ksT N.1)).length)) := (fdB_of hO2 53).symm.trans h53
  refine hz_iloadn (pc := 31) 3 (hz_dec kX12_spend 18 rfl) rfl ?_
  refine hz_if_lt (pc := 32) (tgt := 43) (hz_dec kX12_spend 19 rfl) (by decide) (fun h1 => ?_) (fun h1 => ?_)
  · skip
    refine hz_iconst (pc := 43) (v := (-1)) (hz_dec kX12_spend 24 rfl) (by decide) ?_
    refine hz_goto (pc := 44) (tgt := 64) (hz_dec kX12_spend 25 rfl) (by decide) ?_
    exact hz_iret (pc := 64) (hz_dec kX12_spend 37 rfl) rfl ⟨rfl, rfl, (hf1.S rfl).tr (hu2.S rfl), hR2⟩
  · skip
    refine hz_iloadn (pc := 35) 3 (hz_dec kX12_spend 20 rfl) rfl ?_
    refine hz_aloadn (pc := 36) 1 (hz_dec kX12_spend 21 rfl) rfl ?_
    refine hz_get (pc := 37) (v := .int (nI ((coAt (ksB N.1) (enB (ksB N.1)) (ksT N.1)).length))) (hz_dec kX12_spend 22 rfl) fo_X12_479 hO2 h8 (by omega) g53 ?_
    refine hz_icmp_lt (pc := 40) (tgt := 47) (hz_dec kX12_spend 23 rfl) (by decide) (fun h2 => ?_) (fun h2 => ?_)
    · skip
      exact absurd h2 (hi.resolve_left h1)
    · skip
      refine hz_iconst (pc := 43) (v := (-1)) (hz_dec kX12_spend 24 rfl) (by decide) ?_
      refine hz_goto (pc := 44) (tgt := 64) (hz_dec kX12_spend 25 rfl) (by decide) ?_
      exact hz_iret (pc := 64) (hz_dec kX12_spend 37 rfl) rfl ⟨rfl, rfl, (hf1.S rfl).tr (hu2.S rfl), hR2⟩
set_option maxHeartbeats 4000000 in
set_option maxRecDepth 100000 in
theorem c_spend {κ : hz_C} {z : Nat} {M : hz_M} {H : ho_H} (hz : 63 + 34 * (hoN H).length ≤ z) (hnn : (hoN H).length ≤ 6) (hT4 : (hoT H).length ≤ 4000) {ll : Nat} {fr kn : Int32} (hR : hcR M z H ll fr kn) {v : Nat} (hv : v < (hoN H).length) {N : nd_N} (hN : ndL (hoN H) v = N) {i : Nat} {sd : Int64} (hup : N.2.1 = true) (hI : ksI N.1) (hi : i < (coAt (ksB N.1) (enB (ksB N.1)) (ksT N.1)).length) : hz_Mt κ xX11_spend 1 0 0 [.ref 8, .int (nI v), .int (nI i), .long sd] z M (hcP M z H (.int (if (hoI H).length < 4 then nI ((hoI H).length + 1) else -3)) (hod H (if (hoI H).length < 4 then hoI H ++ [((coL (coAt (ksB N.1) (enB (ksB N.1)) (ksT N.1)) i).1, (coL (coAt (ksB N.1) (enB (ksB N.1)) (ksT N.1)) i).2.1, sd)] else hoI H) (hoU H))) := by
  refine hz_ent (lo := [(0, .ref 8), (1, .int (nI v)), (2, .int (nI i)), (3, .long sd)]) (by decide) (Nat.le_of_ble_eq_true rfl) rfl ?_
  have hH := hR.1
  have hNs := hR.2.1
  obtain ⟨hO, hQ, hD⟩ := id hR.2.2.2.2.1
  obtain ⟨g53, h53⟩ := hR.2.2.2.2.2.1
  have hJ := hR.2.2.2.1
  obtain ⟨g56, h56, hT56⟩ := hR.2.2.2.2.2.2.2.2.2.1
  have hdf := hR.2.2.2.2.2.2.2.2.2.2
  have hck : ck_k M z := hJ.2.2.2.2.2.2.2.1
  have hcs : ck_s M := hJ.2.2.2.2.2.2.2.2.1
  have hz63 : 63 ≤ z := by omega
  have hK := hR.2.2.1 v hv
  rw [hN] at hK
  obtain ⟨hn, ⟨gd, hgd, hgD⟩, hT, hC, hP, hL⟩ := id hK
  have hn : M (63 + 34 * v) = ndO (63 + 34 * v) (nI v) (nI 1) (nI (ksN N.1)) (pvI (ksF N.1)) N.2.2.1 N.2.2.2 := by rw [hup] at hn; exact hn
  obtain ⟨hcO, hcl, -, c1, c2, c3, c4, c5, c6, k1, k2, k3, k4, k5, k6, cX⟩ := id hC
  have hb5 := hI.2.1
  have hb113 := hI.1.top.2.1
  refine hz_aloadn (pc := 0) 0 (hz_dec kX11_spend 0 rfl) rfl ?_
  refine hz_iloadn (pc := 1) 1 (hz_dec kX11_spend 1 rfl) rfl ?_
  refine hz_xV (pc := 2) (a := 8) (As := [.int (nI v)]) (st := []) (hz_dec kX11_spend 2 rfl) co_X11_162 im_X11_nodeOf se_X11_nodeOf rfl hH (by omega) (by omega) (c_nOf hz63 hH hnn hNs (b := v) hv) rfl (by decide) ⟨Nat.le_refl _, Nat.le_refl _⟩ (Nat.le_of_ble_eq_true rfl) rfl ?_
  refine hz_astore (pc := 5) (i := 5) (lo2 := [(5, .ref (63 + 34 * v)), (0, .ref 8), (1, .int (nI v)), (2, .int (nI i)), (3, .long sd)]) (hz_dec kX11_spend 3 rfl) (by decide) rfl ?_
  refine hz_aload (pc := 7) 0 (hz_dec kX11_spend 4 rfl) rfl ?_
  refine hz_ifnonnull (pc := 9) (tgt := 14) (hz_dec kX11_spend 5 rfl) (by decide) ?_
  refine hz_aload (pc := 14) 0 (hz_dec kX11_spend 8 rfl) rfl ?_
  refine hz_get (pc := 16) (hz_dec kX11_spend 9 rfl) fo_X11_166 hn (by omega) (by omega) rfl ?_
  refine hz_z_ne (pc := 19) (tgt := 25) (hz_dec kX11_spend 10 rfl) (by decide) (by omega) (fun hq1 => ?_) (fun hq1 => ?_)
  · skip
    refine hz_iloadn (pc := 25) 3 (hz_dec kX11_spend 13 rfl) rfl ?_
    refine hz_z_lt (pc := 26) (tgt := 41) (hz_dec kX11_spend 14 rfl) (by decide) (by omega) ?_
    refine hz_iloadn (pc := 29) 3 (hz_dec kX11_spend 15 rfl) rfl ?_
    refine hz_aload (pc := 30) 0 (hz_dec kX11_spend 16 rfl) rfl ?_
    refine hz_get (pc := 32) (hz_dec kX11_spend 17 rfl) fo_X11_170 hn (by omega) (by omega) rfl ?_
    refine hz_get (pc := 35) (hz_dec kX11_spend 18 rfl) fo_X11_174 hcO (by omega) (by omega) rfl ?_
    refine hz_n_lt (pc := 38) (tgt := 43) (hz_dec kX11_spend 19 rfl) (by decide) (by omega) (by omega) (fun h2 => ?_) (fun h2 => ?_)
    · skip
      refine hz_aloadn (pc := 43) 1 (hz_dec kX11_spend 22 rfl) rfl ?_
      refine hz_get (pc := 44) (hz_dec kX11_spend 23 rfl) fo_X11_53 hH (by omega) (by omega) rfl ?_
      refine hz_aload (pc := 47) 0 (hz_dec kX11_spend 24 rfl) rfl ?_
      refine hz_get (pc := 49) (hz_dec kX11_spend 25 rfl) fo_X11_170 hn (by omega) (by omega) rfl ?_
      refine hz_get (pc := 52) (hz_dec kX11_spend 26 rfl) fo_X11_179 hcO (by omega) (by omega) rfl ?_
      refine hz_iloadn (pc := 55) 3 (hz_dec kX11_spend 27 rfl) rfl ?_
      refine hz_lald (pc := 56) (j := i) (hz_dec kX11_spend 28 rfl) k1 (by omega) (by omega) rfl (by omega) (by decide) ?_
      refine hz_eql (pc := 57) (cX i hi).1 ?_
      refine hz_aload (pc := 57) 0 (hz_dec kX11_spend 29 rfl) rfl ?_
      refine hz_get (pc := 59) (hz_dec kX11_spend 30 rfl) fo_X11_170 hn (by omega) (by omega) rfl ?_
      refine hz_get (pc := 62) (hz_dec kX11_spend 31 rfl) fo_X11_182 hcO (by omega) (by omega) rfl ?_
      refine hz_iloadn (pc := 65) 3 (hz_dec kX11_spend 32 rfl) rfl ?_
      refine hz_iald (pc := 66) (j := i) (hz_dec kX11_spend 33 rfl) k2 (by omega) (by omega) rfl (by omega) (by decide) ?_
      refine hz_eqi (pc := 67) (cX i hi).2.1 ?_
      refine hz_lloadn (pc := 67) 4 (hz_dec kX11_spend 34 rfl) rfl ?_
      refine hz_callV (pc := 68) (a := 39) (As := [.long ((coL (coAt (ksB N.1) (enB (ksB N.1)) (ksT N.1)) i).1), .int ((coL (coAt (ksB N.1) (enB (ksB N.1)) (ksT N.1)) i).2.1), .long sd]) (st := []) (hz_dec kX11_spend 35 rfl) co_X11_158 im_X2_addInput se_X2_addInput rfl hdf.1 (by omega) (by omega) (c_adI hz63 hdf) rfl (by decide) ⟨Nat.le_refl _, Nat.le_refl _⟩ (Nat.le_of_ble_eq_true rfl) rfl (fun r9 z9 M3 hp9 => ?_)
      obtain ⟨rfl, rfl, hf3, hd3⟩ := hp9
      exact hz_iret (pc := 71) (hz_dec kX11_spend 36 rfl) rfl ⟨rfl, rfl, (hf3.mono (fun q (h9 : outS [(8, 63 + 34 * (hoN H).length)] q) => ⟨by have r := h9.1; omega, trivial⟩)), ll, fr, kn, hR.d hf3 hd3⟩
    · skip
      exact absurd hi (by omega)
  · skip
    exact absurd hq1 (by decide)
set_option maxHeartbeats 4000000 in
set_option maxRecDepth 100000 in
theorem c_rspend {κ : hz_C} {z B : Nat} {M : hz_M} {H : ho_H} (hnn : (hoN H).length ≤ 6) (hT4 : (hoT H).length ≤ 4000) (hR : hmR M z B H) {v : Nat} (hv : v < (hoN H).length) {N : nd_N} (hN : ndL (hoN H) v = N) {i : Nat} {sd : Int64} (hup : N.2.1 = true) (hI : ksI N.1) (hi : i < (coAt (ksB N.1) (enB (ksB N.1)) (ksT N.1)).length) : hz_Mt κ xX12_spend 4 0 0 [.ref B, .int (nI v), .int (nI i), .long sd] z M (hmP M z B (.int (if (hoI H).length < 4 then nI ((hoI H).length + 1) else -3)) (hod H (if (hoI H).length < 4 then hoI H ++ [((coL (coAt (ksB N.1) (enB (ksB N.1)) (ksT N.1)) i).1, (coL (coAt (ksB N.1) (enB (ksB N.1)) (ksT N.1)) i).2.1, sd)] else hoI H) (hoU H))) := by
  refine hz_ent (lo := [(0, .ref B), (1, .int (nI v)), (2, .int (nI i)), (3, .long sd)]) (by decide) (Nat.le_of_ble_eq_true rfl) rfl ?_
  obtain ⟨hk0_, hE0, ⟨m1, m2, m3⟩, hNd, a5, a6, a7, a8⟩ := id hR
  obtain ⟨⟨fs, hO, hF⟩, -, -, h8, hz⟩ := id hk0_
  obtain ⟨x1, x3, x4, x5, x6, x7, x8⟩ := id m3
  have eSt : stI (ndL (hoN H) v).2.1 = nI 0 := by rw [hN, hup]; rfl
  refine hz_aloadn (pc := 0) 0 (hz_dec kX12_spend 0 rfl) rfl ?_
  refine hz_iconst (pc := 1) (v := nI 0) (hz_dec kX12_spend 1 rfl) (by decide) ?_
  refine hz_puti (pc := 2) (hz_dec kX12_spend 2 rfl) fo_X12_302 ft_X12_0 hO h8 (by omega) (by rw [hF.1]; decide) ?_
  have hf1 : mfr B [0, 89] [] M (va_up M B (.inr (12, (List.set fs 0 (.int (nI 0)))))) := (mfr.rf ⟨fs, hO, hF⟩).upO (k := 0) hO hF rfl rfl
  have hR1 : hmR (va_up M B (.inr (12, (List.set fs 0 (.int (nI 0)))))) z B H := hR.m0 hf1 hE0.upO ((fdB_of (va_up_self _ _ _) 89).trans ((List.getElem?_set_ne (by decide)).trans ((fdB_of hO 89).symm.trans x8)))
  generalize (va_up M B (.inr (12, (List.set fs 0 (.int (nI 0)))))) = M1 at *
  obtain ⟨hk1, hE1, ⟨n1, d1, q1⟩, hNd1, a51, a61, a71, a81⟩ := id hR1
  obtain ⟨⟨fs1, hO1, hF1⟩, -, -, -, -⟩ := id hk1
  have h0 : mdN M1 B v N := by have q := hNd1 v hv; rw [hN] at q; exact q
  have hv6 : v < 6 := by omega
  have h01 : mnS M1 B v 1 N.1 (pvI (ksF N.1)) (ksP N.1) := by have q := h0.1; rw [hup] at q; exact q
  have h02 : orX (fA M1 B) v (mkO (ksL N.1)) := by have q := h0.2.1; rw [hup] at q; exact q
  obtain ⟨p1, p2, p3, p4, ⟨p5a, p5b, p5c⟩, p6, p7, p9⟩ := id h01
  have hbp := hI.1.p hI.2.1
  obtain ⟨b1, b2, b3, b4, b5, b6, b7, b8⟩ := id hbp
  refine hz_aloadn (pc := 5) 0 (hz_dec kX12_spend 3 rfl) rfl ?_
  refine hz_iloadn (pc := 6) 1 (hz_dec kX12_spend 4 rfl) rfl ?_
  refine hz_xV (pc := 7) (a := B) (As := [.int (nI v)]) (st := []) (hz_dec kX12_spend 5 rfl) co_X12_692 im_X12_stateOf se_X12_stateOf rfl hO1 h8 (by omega) (c_st hnn hR1 hv) rfl (by decide) ⟨Nat.le_refl _, Nat.le_refl _⟩ (Nat.le_of_ble_eq_true rfl) rfl ?_
  refine hz_eqi (pc := 10) eSt ?_
  refine hz_istore (pc := 10) (i := 5) (lo2 := [(5, .int (nI 0)), (0, .ref B), (1, .int (nI v)), (2, .int (nI i)), (3, .long sd)]) (hz_dec kX12_spend 6 rfl) (by decide) rfl ?_
  refine hz_iload (pc := 12) 0 (hz_dec kX12_spend 7 rfl) rfl ?_
  refine hz_z_ge (pc := 14) (tgt := 20) (hz_dec kX12_spend 8 rfl) (by decide) (by omega) ?_
  refine hz_aloadn (pc := 20) 1 (hz_dec kX12_spend 11 rfl) rfl ?_
  refine hz_iloadn (pc := 21) 2 (hz_dec kX12_spend 12 rfl) rfl ?_
  refine hz_aloadn (pc := 22) 1 (hz_dec kX12_spend 13 rfl) rfl ?_
  refine hz_get (pc := 23) (v := .ref (B + 21)) (hz_dec kX12_spend 14 rfl) fo_X12_74 hO1 h8 (by omega) (hF1.2 23 (by decide) (by decide)) ?_
  refine hz_iloadn (pc := 26) 2 (hz_dec kX12_spend 15 rfl) rfl ?_
  refine hz_iald (pc := 27) (j := v) (hz_dec kX12_spend 16 rfl) hE1.a21 (by omega) (by omega) rfl (by omega) (by decide) ?_
  refine hz_eqi (pc := 28) p5b.2.1 ?_
  refine hz_callV (pc := 28) (a := B) (As := [.int (nI v), .int (nI (ksT N.1))]) (st := []) (hz_dec kX12_spend 17 rfl) co_X12_553 im_X12_unspentBehind se_X12_unspentBehind rfl hO1 h8 (by omega) (c_unR hR1 hnn hv hN hI) rfl (by decide) ⟨Nat.le_refl _, Nat.le_refl _⟩ (Nat.le_of_ble_eq_true rfl) rfl (fun r9 z9 M2 hp9 => ?_)
  obtain ⟨rfl, rfl, hu2, hR2, hc2⟩ := hp9
  obtain ⟨hmO, h53, hcl, c1, c2, c3, c4, c5, c6, k1, k2, k3, k4, k5, k6, cX⟩ := id hc2
  obtain ⟨fs2, hO2, hF2⟩ := hmO
  have g53 : fs2[53]? = some (.int (nI (coAt (ksB N.1) (enB (ksB N.1)) (ksT N.1)).length)) := (fdB_of hO2 53).symm.trans h53
  refine hz_iloadn (pc := 31) 3 (hz_dec kX12_spend 18 rfl) rfl ?_
  refine hz_z_lt (pc := 32) (tgt := 43) (hz_dec kX12_spend 19 rfl) (by decide) (by omega) ?_
  refine hz_iloadn (pc := 35) 3 (hz_dec kX12_spend 20 rfl) rfl ?_
  refine hz_aloadn (pc := 36) 1 (hz_dec kX12_spend 21 rfl) rfl ?_
  refine hz_get (pc := 37) (v := .int (nI ((coAt (ksB N.1) (enB (ksB N.1)) (ksT N.1)).length))) (hz_dec kX12_spend 22 rfl) fo_X12_479 hO2 h8 (by omega) g53 ?_
  refine hz_n_lt (pc := 40) (tgt := 47) (hz_dec kX12_spend 23 rfl) (by decide) (by omega) (by omega) (fun h2 => ?_) (fun h2 => ?_)
  · skip
    refine hz_aloadn (pc := 47) 1 (hz_dec kX12_spend 26 rfl) rfl ?_
    refine hz_aloadn (pc := 48) 1 (hz_dec kX12_spend 27 rfl) rfl ?_
    refine hz_get (pc := 49) (v := .ref (B + 43)) (hz_dec kX12_spend 28 rfl) fo_X12_140 hO2 h8 (by omega) (hF2.2 47 (by decide) (by decide)) ?_
    refine hz_iloadn (pc := 52) 3 (hz_dec kX12_spend 29 rfl) rfl ?_
    refine hz_lald (pc := 53) (j := i) (hz_dec kX12_spend 30 rfl) k1 (by omega) (by omega) rfl (by omega) (by decide) ?_
    refine hz_eql (pc := 54) (cX i hi).1 ?_
    refine hz_aloadn (pc := 54) 1 (hz_dec kX12_spend 31 rfl) rfl ?_
    refine hz_get (pc := 55) (v := .ref (B + 44)) (hz_dec kX12_spend 32 rfl) fo_X12_143 hO2 h8 (by omega) (hF2.2 48 (by decide) (by decide)) ?_
    refine hz_iloadn (pc := 58) 3 (hz_dec kX12_spend 33 rfl) rfl ?_
    refine hz_iald (pc := 59) (j := i) (hz_dec kX12_spend 34 rfl) k2 (by omega) (by omega) rfl (by omega) (by decide) ?_
    refine hz_eqi (pc := 60) (cX i hi).2.1 ?_
    refine hz_lloadn (pc := 60) 4 (hz_dec kX12_spend 35 rfl) rfl ?_
    obtain ⟨hk2, hE2, -, -, -, -, a72, -⟩ := id hR2
    refine hz_callV (pc := 61) (a := B) (As := [.long ((coL (coAt (ksB N.1) (enB (ksB N.1)) (ksT N.1)) i).1), .int ((coL (coAt (ksB N.1) (enB (ksB N.1)) (ksT N.1)) i).2.1), .long sd]) (st := []) (hz_dec kX12_spend 36 rfl) co_X12_688 im_X12_addInput se_X12_addInput rfl hO2 h8 (by omega) (c_madI hk2.1 hE2 h8 hz a72) rfl (by decide) ⟨Nat.le_refl _, Nat.le_refl _⟩ (Nat.le_of_ble_eq_true rfl) rfl (fun r9 z9 M3 hp9 => ?_)
    obtain ⟨rfl, rfl, hf3, hE3, hd3⟩ := hp9
    exact hz_iret (pc := 64) (hz_dec kX12_spend 37 rfl) rfl ⟨rfl, rfl, ((hf1.S rfl).tr (hu2.S rfl)).tr (hf3.S rfl), hR2.d (hf3.mono rfl rfl) hE3 hd3⟩
  · skip
    exact absurd hi (by omega)
set_option maxHeartbeats 4000000 in
set_option maxRecDepth 100000 in
theorem c_unspentN {κ : hz_C} {z : Nat} {M : hz_M} {H : ho_H} (hz : 63 + 34 * (hoN H).length ≤ z) (hnn : (hoN H).length ≤ 6) (hT4 : (hoT H).length ≤ 4000) {ll : Nat} {fr kn : Int32} (hR : hcR M z H ll fr kn) {v : Int32} {i wh : Int32} (hv : v < 0 ∨ ¬ v < nI (hoN H).length) : hz_Mt κ xX11_unspent 1 0 0 [.ref 8, .int v, .int i, .int wh] z M (hcP M z H (.long 0) H) := by
  refine hz_ent (lo := [(0, .ref 8), (1, .int v), (2, .int i), (3, .int wh)]) (by decide) (Nat.le_of_ble_eq_true rfl) rfl ?_
  have hH := hR.1
  have hNs := hR.2.1
  obtain ⟨hO, hQ, hD⟩ := id hR.2.2.2.2.1
  obtain ⟨g53, h53⟩ := hR.2.2.2.2.2.1
  have hJ := hR.2.2.2.1
  obtain ⟨g56, h56, hT56⟩ := hR.2.2.2.2.2.2.2.2.2.1
  have hdf := hR.2.2.2.2.2.2.2.2.2.2
  have hck : ck_k M z := hJ.2.2.2.2.2.2.2.1
  have hcs : ck_s M := hJ.2.2.2.2.2.2.2.2.1
  have hz63 : 63 ≤ z := by omega
  refine hz_aloadn (pc := 0) 0 (hz_dec kX11_unspent 0 rfl) rfl ?_
  refine hz_iloadn (pc := 1) 1 (hz_dec kX11_unspent 1 rfl) rfl ?_
  refine hz_xV (pc := 2) (a := 8) (As := [.int v]) (st := []) (hz_dec kX11_unspent 2 rfl) co_X11_162 im_X11_nodeOf se_X11_nodeOf rfl hH (by omega) (by omega) (c_nOfN hz63 hH hnn hNs hv) rfl (by decide) ⟨Nat.le_refl _, Nat.le_refl _⟩ (Nat.le_of_ble_eq_true rfl) rfl ?_
  refine hz_astoreN (pc := 5) (i := 4) (lo2 := [(4, .null), (0, .ref 8), (1, .int v), (2, .int i), (3, .int wh)]) (hz_dec kX11_unspent 3 rfl) (by decide) rfl ?_
  refine hz_aloadN (pc := 7) 0 (hz_dec kX11_unspent 4 rfl) rfl ?_
  refine hz_ifnullN (pc := 9) (tgt := 36) (hz_dec kX11_unspent 5 rfl) (by decide) ?_
  refine hz_lconst (pc := 36) (v := 0) (hz_dec kX11_unspent 16 rfl) (by decide) ?_
  exact hz_lret (pc := 37) (hz_dec kX11_unspent 17 rfl) rfl (hcP.no hR _)
set_option maxHeartbeats 4000000 in
set_option maxRecDepth 100000 in
theorem c_runspentN {κ : hz_C} {z B : Nat} {M : hz_M} {H : ho_H} (hnn : (hoN H).length ≤ 6) (hT4 : (hoT H).length ≤ 4000) (hR : hmR M z B H) {v : Int32} {i wh : Int32} (hv : v < 0 ∨ ¬ v < nI (hoN H).length) : hz_Mt κ xX12_unspent 4 0 0 [.ref B, .int v, .int i, .int wh] z M (hmP M z B (.long 0) H) := by
  refine hz_ent (lo := [(0, .ref B), (1, .int v), (2, .int i), (3, .int wh)]) (by decide) (Nat.le_of_ble_eq_true rfl) rfl ?_
  obtain ⟨hk0_, hE0, ⟨m1, m2, m3⟩, hNd, a5, a6, a7, a8⟩ := id hR
  obtain ⟨⟨fs, hO, hF⟩, -, -, h8, hz⟩ := id hk0_
  obtain ⟨x1, x3, x4, x5, x6, x7, x8⟩ := id m3
  refine hz_aloadn (pc := 0) 0 (hz_dec kX12_unspent 0 rfl) rfl ?_
  refine hz_iconst (pc := 1) (v := nI 0) (hz_dec kX12_unspent 1 rfl) (by decide) ?_
  refine hz_puti (pc := 2) (hz_dec kX12_unspent 2 rfl) fo_X12_302 ft_X12_0 hO h8 (by omega) (by rw [hF.1]; decide) ?_
  have hf1 : mfr B [0, 89] [] M (va_up M B (.inr (12, (List.set fs 0 (.int (nI 0)))))) := (mfr.rf ⟨fs, hO, hF⟩).upO (k := 0) hO hF rfl rfl
  have hR1 : hmR (va_up M B (.inr (12, (List.set fs 0 (.int (nI 0)))))) z B H := hR.m0 hf1 hE0.upO ((fdB_of (va_up_self _ _ _) 89).trans ((List.getElem?_set_ne (by decide)).trans ((fdB_of hO 89).symm.trans x8)))
  generalize (va_up M B (.inr (12, (List.set fs 0 (.int (nI 0)))))) = M1 at *
  obtain ⟨hk1, hE1, ⟨n1, d1, q1⟩, hNd1, a51, a61, a71, a81⟩ := id hR1
  obtain ⟨⟨fs1, hO1, hF1⟩, -, -, -, -⟩ := id hk1
  refine hz_aloadn (pc := 5) 0 (hz_dec kX12_unspent 3 rfl) rfl ?_
  refine hz_iloadn (pc := 6) 1 (hz_dec kX12_unspent 4 rfl) rfl ?_
  refine hz_xV (pc := 7) (a := B) (As := [.int v]) (st := []) (hz_dec kX12_unspent 5 rfl) co_X12_692 im_X12_stateOf se_X12_stateOf rfl hO1 h8 (by omega) (c_stN hnn hR1 hv) rfl (by decide) ⟨Nat.le_refl _, Nat.le_refl _⟩ (Nat.le_of_ble_eq_true rfl) rfl ?_
  refine hz_if_ne (pc := 10) (tgt := 22) (hz_dec kX12_unspent 6 rfl) (by decide) (fun hq1 => ?_) (fun hq1 => ?_)
  · skip
    refine hz_lconst (pc := 22) (v := 0) (hz_dec kX12_unspent 12 rfl) (by decide) ?_
    exact hz_lret (pc := 23) (hz_dec kX12_unspent 13 rfl) rfl ⟨rfl, rfl, hf1.S rfl, hR1⟩
  · skip
    exact absurd hq1 (by decide)
set_option maxHeartbeats 4000000 in
set_option maxRecDepth 100000 in
theorem c_unspentD {κ : hz_C} {z : Nat} {M : hz_M} {H : ho_H} (hz : 63 + 34 * (hoN H).length ≤ z) (hnn : (hoN H).length ≤ 6) (hT4 : (hoT H).length ≤ 4000) {ll : Nat} {fr kn : Int32} (hR : hcR M z H ll fr kn) {v : Nat} (hv : v < (hoN H).length) {N : nd_N} (hN : ndL (hoN H) v = N) {i wh : Int32} (hup : N.2.1 = false) : hz_Mt κ xX11_unspent 1 0 0 [.ref 8, .int (nI v), .int i, .int wh] z M (hcP M z H (.long 0) H) := by
  refine hz_ent (lo := [(0, .ref 8), (1, .int (nI v)), (2, .int i), (3, .int wh)]) (by decide) (Nat.le_of_ble_eq_true rfl) rfl ?_
  have hH := hR.1
  have hNs := hR.2.1
  obtain ⟨hO, hQ, hD⟩ := id hR.2.2.2.2.1
  obtain ⟨g53, h53⟩ := hR.2.2.2.2.2.1
  have hJ := hR.2.2.2.1
  obtain ⟨g56, h56, hT56⟩ := hR.2.2.2.2.2.2.2.2.2.1
  have hdf := hR.2.2.2.2.2.2.2.2.2.2
  have hck : ck_k M z := hJ.2.2.2.2.2.2.2.1
  have hcs : ck_s M := hJ.2.2.2.2.2.2.2.2.1
  have hz63 : 63 ≤ z := by omega
  have hK := hR.2.2.1 v hv
  rw [hN] at hK
  obtain ⟨hn, ⟨gd, hgd, hgD⟩, hT, hC, hP, hL⟩ := id hK
  have hn : M (63 + 34 * v) = ndO (63 + 34 * v) (nI v) (nI 0) (nI (ksN N.1)) (pvI (ksF N.1)) N.2.2.1 N.2.2.2 := by rw [hup] at hn; exact hn
  refine hz_aloadn (pc := 0) 0 (hz_dec kX11_unspent 0 rfl) rfl ?_
  refine hz_iloadn (pc := 1) 1 (hz_dec kX11_unspent 1 rfl) rfl ?_
  refine hz_xV (pc := 2) (a := 8) (As := [.int (nI v)]) (st := []) (hz_dec kX11_unspent 2 rfl) co_X11_162 im_X11_nodeOf se_X11_nodeOf rfl hH (by omega) (by omega) (c_nOf hz63 hH hnn hNs (b := v) hv) rfl (by decide) ⟨Nat.le_refl _, Nat.le_refl _⟩ (Nat.le_of_ble_eq_true rfl) rfl ?_
  refine hz_astore (pc := 5) (i := 4) (lo2 := [(4, .ref (63 + 34 * v)), (0, .ref 8), (1, .int (nI v)), (2, .int i), (3, .int wh)]) (hz_dec kX11_unspent 3 rfl) (by decide) rfl ?_
  refine hz_aload (pc := 7) 0 (hz_dec kX11_unspent 4 rfl) rfl ?_
  refine hz_ifnull (pc := 9) (hz_dec kX11_unspent 5 rfl) ?_
  refine hz_aload (pc := 12) 0 (hz_dec kX11_unspent 6 rfl) rfl ?_
  refine hz_get (pc := 14) (hz_dec kX11_unspent 7 rfl) fo_X11_166 hn (by omega) (by omega) rfl ?_
  refine hz_z_eq (pc := 17) (tgt := 36) (hz_dec kX11_unspent 8 rfl) (by decide) (by omega) (fun hq1 => ?_) (fun hq1 => ?_)
  · skip
    refine hz_lconst (pc := 36) (v := 0) (hz_dec kX11_unspent 16 rfl) (by decide) ?_
    exact hz_lret (pc := 37) (hz_dec kX11_unspent 17 rfl) rfl (hcP.no hR _)
  · skip
    exact absurd hq1 (by decide)
set_option maxHeartbeats 4000000 in
set_option maxRecDepth 100000 in
theorem c_runspentD {κ : hz_C} {z B : Nat} {M : hz_M} {H : ho_H} (hnn : (hoN H).length ≤ 6) (hT4 : (hoT H).length ≤ 4000) (hR : hmR M z B H) {v : Nat} (hv : v < (hoN H).length) {N : nd_N} (hN : ndL (hoN H) v = N) {i wh : Int32} (hup : N.2.1 = false) : hz_Mt κ xX12_unspent 4 0 0 [.ref B, .int (nI v), .int i, .int wh] z M (hmP M z B (.long 0) H) := by
  refine hz_ent (lo := [(0, .ref B), (1, .int (nI v)), (2, .int i), (3, .int wh)]) (by decide) (Nat.le_of_ble_eq_true rfl) rfl ?_
  obtain ⟨hk0_, hE0, ⟨m1, m2, m3⟩, hNd, a5, a6, a7, a8⟩ := id hR
  obtain ⟨⟨fs, hO, hF⟩, -, -, h8, hz⟩ := id hk0_
  obtain ⟨x1, x3, x4, x5, x6, x7, x8⟩ := id m3
  have eSt : stI (ndL (hoN H) v).2.1 = (-2) := by rw [hN, hup]; rfl
  refine hz_aloadn (pc := 0) 0 (hz_dec kX12_unspent 0 rfl) rfl ?_
  refine hz_iconst (pc := 1) (v := nI 0) (hz_dec kX12_unspent 1 rfl) (by decide) ?_
  refine hz_puti (pc := 2) (hz_dec kX12_unspent 2 rfl) fo_X12_302 ft_X12_0 hO h8 (by omega) (by rw [hF.1]; decide) ?_
  have hf1 : mfr B [0, 89] [] M (va_up M B (.inr (12, (List.set fs 0 (.int (nI 0)))))) := (mfr.rf ⟨fs, hO, hF⟩).upO (k := 0) hO hF rfl rfl
  have hR1 : hmR (va_up M B (.inr (12, (List.set fs 0 (.int (nI 0)))))) z B H := hR.m0 hf1 hE0.upO ((fdB_of (va_up_self _ _ _) 89).trans ((List.getElem?_set_ne (by decide)).trans ((fdB_of hO 89).symm.trans x8)))
  generalize (va_up M B (.inr (12, (List.set fs 0 (.int (nI 0)))))) = M1 at *
  obtain ⟨hk1, hE1, ⟨n1, d1, q1⟩, hNd1, a51, a61, a71, a81⟩ := id hR1
  obtain ⟨⟨fs1, hO1, hF1⟩, -, -, -, -⟩ := id hk1
  refine hz_aloadn (pc := 5) 0 (hz_dec kX12_unspent 3 rfl) rfl ?_
  refine hz_iloadn (pc := 6) 1 (hz_dec kX12_unspent 4 rfl) rfl ?_
  refine hz_xV (pc := 7) (a := B) (As := [.int (nI v)]) (st := []) (hz_dec kX12_unspent 5 rfl) co_X12_692 im_X12_stateOf se_X12_stateOf rfl hO1 h8 (by omega) (c_st hnn hR1 hv) rfl (by decide) ⟨Nat.le_refl _, Nat.le_refl _⟩ (Nat.le_of_ble_eq_true rfl) rfl ?_
  refine hz_eqi (pc := 10) eSt ?_
  refine hz_if_ne (pc := 10) (tgt := 22) (hz_dec kX12_unspent 6 rfl) (by decide) (fun hq1 => ?_) (fun hq1 => ?_)
  · skip
    refine hz_lconst (pc := 22) (v := 0) (hz_dec kX12_unspent 12 rfl) (by decide) ?_
    exact hz_lret (pc := 23) (hz_dec kX12_unspent 13 rfl) rfl ⟨rfl, rfl, hf1.S rfl, hR1⟩
  · skip
    exact absurd hq1 (by decide)
set_option maxHeartbeats 4000000 in
set_option maxRecDepth 100000 in
theorem c_unspentW {κ : hz_C} {z : Nat} {M : hz_M} {H : ho_H} (hz : 63 + 34 * (hoN H).length ≤ z) (hnn : (hoN H).length ≤ 6) (hT4 : (hoT H).length ≤ 4000) {ll : Nat} {fr kn : Int32} (hR : hcR M z H ll fr kn) {v : Nat} (hv : v < (hoN H).length) {N : nd_N} (hN : ndL (hoN H) v = N) {i wh : Int32} (hup : N.2.1 = true) (hI : ksI N.1) (hw : wh < 0 ∨ ¬ wh ≤ nI 5) : hz_Mt κ xX11_unspent 1 0 0 [.ref 8, .int (nI v), .int i, .int wh] z M (hcP M z H (.long 0) H) := by
  refine hz_ent (lo := [(0, .ref 8), (1, .int (nI v)), (2, .int i), (3, .int wh)]) (by decide) (Nat.le_of_ble_eq_true rfl) rfl ?_
  have hH := hR.1
  have hNs := hR.2.1
  obtain ⟨hO, hQ, hD⟩ := id hR.2.2.2.2.1
  obtain ⟨g53, h53⟩ := hR.2.2.2.2.2.1
  have hJ := hR.2.2.2.1
  obtain ⟨g56, h56, hT56⟩ := hR.2.2.2.2.2.2.2.2.2.1
  have hdf := hR.2.2.2.2.2.2.2.2.2.2
  have hck : ck_k M z := hJ.2.2.2.2.2.2.2.1
  have hcs : ck_s M := hJ.2.2.2.2.2.2.2.2.1
  have hz63 : 63 ≤ z := by omega
  have hK := hR.2.2.1 v hv
  rw [hN] at hK
  obtain ⟨hn, ⟨gd, hgd, hgD⟩, hT, hC, hP, hL⟩ := id hK
  have hn : M (63 + 34 * v) = ndO (63 + 34 * v) (nI v) (nI 1) (nI (ksN N.1)) (pvI (ksF N.1)) N.2.2.1 N.2.2.2 := by rw [hup] at hn; exact hn
  obtain ⟨hcO, hcl, -, c1, c2, c3, c4, c5, c6, k1, k2, k3, k4, k5, k6, cX⟩ := id hC
  have hb5 := hI.2.1
  have hb113 := hI.1.top.2.1
  have hw2 : wh.toInt < 0 ∨ 5 < wh.toInt := wh_out (n := 5) hw (by decide)
  refine hz_aloadn (pc := 0) 0 (hz_dec kX11_unspent 0 rfl) rfl ?_
  refine hz_iloadn (pc := 1) 1 (hz_dec kX11_unspent 1 rfl) rfl ?_
  refine hz_xV (pc := 2) (a := 8) (As := [.int (nI v)]) (st := []) (hz_dec kX11_unspent 2 rfl) co_X11_162 im_X11_nodeOf se_X11_nodeOf rfl hH (by omega) (by omega) (c_nOf hz63 hH hnn hNs (b := v) hv) rfl (by decide) ⟨Nat.le_refl _, Nat.le_refl _⟩ (Nat.le_of_ble_eq_true rfl) rfl ?_
  refine hz_astore (pc := 5) (i := 4) (lo2 := [(4, .ref (63 + 34 * v)), (0, .ref 8), (1, .int (nI v)), (2, .int i), (3, .int wh)]) (hz_dec kX11_unspent 3 rfl) (by decide) rfl ?_
  refine hz_aload (pc := 7) 0 (hz_dec kX11_unspent 4 rfl) rfl ?_
  refine hz_ifnull (pc := 9) (hz_dec kX11_unspent 5 rfl) ?_
  refine hz_aload (pc := 12) 0 (hz_dec kX11_unspent 6 rfl) rfl ?_
  refine hz_get (pc := 14) (hz_dec kX11_unspent 7 rfl) fo_X11_166 hn (by omega) (by omega) rfl ?_
  refine hz_z_eq (pc := 17) (tgt := 36) (hz_dec kX11_unspent 8 rfl) (by decide) (by omega) (fun hq1 => ?_) (fun hq1 => ?_)
  · skip
    exact absurd hq1 (by decide)
  · skip
    refine hz_iloadn (pc := 20) 3 (hz_dec kX11_unspent 9 rfl) rfl ?_
    refine hz_if_lt (pc := 21) (tgt := 36) (hz_dec kX11_unspent 10 rfl) (by decide) (fun h1 => ?_) (fun h1 => ?_)
    · skip
      refine hz_lconst (pc := 36) (v := 0) (hz_dec kX11_unspent 16 rfl) (by decide) ?_
      exact hz_lret (pc := 37) (hz_dec kX11_unspent 17 rfl) rfl (hcP.no hR _)
    · skip
      refine hz_iloadn (pc := 24) 3 (hz_dec kX11_unspent 11 rfl) rfl ?_
      refine hz_aload (pc := 25) 0 (hz_dec kX11_unspent 12 rfl) rfl ?_
      refine hz_get (pc := 27) (hz_dec kX11_unspent 13 rfl) fo_X11_170 hn (by omega) (by omega) rfl ?_
      refine hz_get (pc := 30) (hz_dec kX11_unspent 14 rfl) fo_X11_174 hcO (by omega) (by omega) rfl ?_
      refine hz_icmp_lt (pc := 33) (tgt := 38) (hz_dec kX11_unspent 15 rfl) (by decide) (fun h2 => ?_) (fun h2 => ?_)
      · skip
        refine hz_aload (pc := 38) 0 (hz_dec kX11_unspent 18 rfl) rfl ?_
        refine hz_get (pc := 40) (hz_dec kX11_unspent 19 rfl) fo_X11_170 hn (by omega) (by omega) rfl ?_
        refine hz_astore (pc := 43) (i := 5) (lo2 := [(5, .ref (63 + 34 * v + 2)), (4, .ref (63 + 34 * v)), (0, .ref 8), (1, .int (nI v)), (2, .int i), (3, .int wh)]) (hz_dec kX11_unspent 20 rfl) (by decide) rfl ?_
        refine hz_iloadn (pc := 45) 5 (hz_dec kX11_unspent 21 rfl) rfl ?_
        refine hz_swOut (pc := 46) (tgt := 142) (hz_dec kX11_unspent 22 rfl) hw2 (by decide) ?_
        refine hz_lconst (pc := 142) (v := 0) (hz_dec kX11_unspent 59 rfl) (by decide) ?_
        exact hz_lret (pc := 143) (hz_dec kX11_unspent 60 rfl) rfl (hcP.no hR _)
      · skip
        refine hz_lconst (pc := 36) (v := 0) (hz_dec kX11_unspent 16 rfl) (by decide) ?_
        exact hz_lret (pc := 37) (hz_dec kX11_unspent 17 rfl) rfl (hcP.no hR _)
set_option maxHeartbeats 4000000 in
set_option maxRecDepth 100000 in
theorem c_runspentW {κ : hz_C} {z B : Nat} {M : hz_M} {H : ho_H} (hnn : (hoN H).length ≤ 6) (hT4 : (hoT H).length ≤ 4000) (hR : hmR M z B H) {v : Nat} (hv : v < (hoN H).length) {N : nd_N} (hN : ndL (hoN H) v = N) {i wh : Int32} (hup : N.2.1 = true) (hI : ksI N.1) (hw : wh < 0 ∨ ¬ wh ≤ nI 5) : hz_Mt κ xX12_unspent 4 0 0 [.ref B, .int (nI v), .int i, .int wh] z M (hmP M z B (.long 0) H) := by
  refine hz_ent (lo := [(0, .ref B), (1, .int (nI v)), (2, .int i), (3, .int wh)]) (by decide) (Nat.le_of_ble_eq_true rfl) rfl ?_
  obtain ⟨hk0_, hE0, ⟨m1, m2, m3⟩, hNd, a5, a6, a7, a8⟩ := id hR
  obtain ⟨⟨fs, hO, hF⟩, -, -, h8, hz⟩ := id hk0_
  obtain ⟨x1, x3, x4, x5, x6, x7, x8⟩ := id m3
  have eSt : stI (ndL (hoN H) v).2.1 = nI 0 := by rw [hN, hup]; rfl
  refine hz_aloadn (pc := 0) 0 (hz_dec kX12_unspent 0 rfl) rfl ?_
  refine hz_iconst (pc := 1) (v := nI 0) (hz_dec kX12_unspent 1 rfl) (by decide) ?_
  refine hz_puti (pc := 2) (hz_dec kX12_unspent 2 rfl) fo_X12_302 ft_X12_0 hO h8 (by omega) (by rw [hF.1]; decide) ?_
  have hf1 : mfr B [0, 89] [] M (va_up M B (.inr (12, (List.set fs 0 (.int (nI 0)))))) := (mfr.rf ⟨fs, hO, hF⟩).upO (k := 0) hO hF rfl rfl
  have hR1 : hmR (va_up M B (.inr (12, (List.set fs 0 (.int (nI 0)))))) z B H := hR.m0 hf1 hE0.upO ((fdB_of (va_up_self _ _ _) 89).trans ((List.getElem?_set_ne (by decide)).trans ((fdB_of hO 89).symm.trans x8)))
  generalize (va_up M B (.inr (12, (List.set fs 0 (.int (nI 0)))))) = M1 at *
  obtain ⟨hk1, hE1, ⟨n1, d1, q1⟩, hNd1, a51, a61, a71, a81⟩ := id hR1
  obtain ⟨⟨fs1, hO1, hF1⟩, -, -, -, -⟩ := id hk1
  refine hz_aloadn (pc := 5) 0 (hz_dec kX12_unspent 3 rfl) rfl ?_
  refine hz_iloadn (pc := 6) 1 (hz_dec kX12_unspent 4 rfl) rfl ?_
  refine hz_xV (pc := 7) (a := B) (As := [.int (nI v)]) (st := []) (hz_dec kX12_unspent 5 rfl) co_X12_692 im_X12_stateOf se_X12_stateOf rfl hO1 h8 (by omega) (c_st hnn hR1 hv) rfl (by decide) ⟨Nat.le_refl _, Nat.le_refl _⟩ (Nat.le_of_ble_eq_true rfl) rfl ?_
  refine hz_eqi (pc := 10) eSt ?_
  refine hz_z_ne (pc := 10) (tgt := 22) (hz_dec kX12_unspent 6 rfl) (by decide) (by omega) (fun hq1 => ?_) (fun hq1 => ?_)
  · skip
    exact absurd hq1 (by decide)
  · skip
    refine hz_iloadn (pc := 13) 3 (hz_dec kX12_unspent 7 rfl) rfl ?_
    refine hz_if_lt (pc := 14) (tgt := 22) (hz_dec kX12_unspent 8 rfl) (by decide) (fun h1 => ?_) (fun h1 => ?_)
    · skip
      refine hz_lconst (pc := 22) (v := 0) (hz_dec kX12_unspent 12 rfl) (by decide) ?_
      exact hz_lret (pc := 23) (hz_dec kX12_unspent 13 rfl) rfl ⟨rfl, rfl, hf1.S rfl, hR1⟩
    · skip
      refine hz_iloadn (pc := 17) 3 (hz_dec kX12_unspent 9 rfl) rfl ?_
      refine hz_iconst (pc := 18) (v := nI 5) (hz_dec kX12_unspent 10 rfl) (by decide) ?_
      refine hz_icmp_le (pc := 19) (tgt := 24) (hz_dec kX12_unspent 11 rfl) (by decide) (fun h2 => ?_) (fun h2 => ?_)
      · skip
        exact absurd h2 (hw.resolve_left h1)
      · skip
        refine hz_lconst (pc := 22) (v := 0) (hz_dec kX12_unspent 12 rfl) (by decide) ?_
        exact hz_lret (pc := 23) (hz_dec kX12_unspent 13 rfl) rfl ⟨rfl, rfl, hf1.S rfl, hR1⟩
set_option maxHeartbeats 4000000 in
set_option maxRecDepth 100000 in
theorem c_unspentI {κ : hz_C} {z : Nat} {M : hz_M} {H : ho_H} (hz : 63 + 34 * (hoN H).length ≤ z) (hnn : (hoN H).length ≤ 6) (hT4 : (hoT H).length ≤ 4000) {ll : Nat} {fr kn : Int32} (hR : hcR M z H ll fr kn) {v : Nat} (hv : v < (hoN H).length) {N : nd_N} (hN : ndL (hoN H) v = N) {i : Int32} {wh : Nat} (hup : N.2.1 = true) (hI : ksI N.1) (hw : wh ≤ 5) (hi : i < 0 ∨ ¬ i < nI (coAt (ksB N.1) (enB (ksB N.1)) (ksT N.1)).length) : hz_Mt κ xX11_unspent 1 0 0 [.ref 8, .int (nI v), .int i, .int (nI wh)] z M (hcP M z H (.long 0) H) := by
  refine hz_ent (lo := [(0, .ref 8), (1, .int (nI v)), (2, .int i), (3, .int (nI wh))]) (by decide) (Nat.le_of_ble_eq_true rfl) rfl ?_
  have hH := hR.1
  have hNs := hR.2.1
  obtain ⟨hO, hQ, hD⟩ := id hR.2.2.2.2.1
  obtain ⟨g53, h53⟩ := hR.2.2.2.2.2.1
  have hJ := hR.2.2.2.1
  obtain ⟨g56, h56, hT56⟩ := hR.2.2.2.2.2.2.2.2.2.1
  have hdf := hR.2.2.2.2.2.2.2.2.2.2
  have hck : ck_k M z := hJ.2.2.2.2.2.2.2.1
  have hcs : ck_s M := hJ.2.2.2.2.2.2.2.2.1
  have hz63 : 63 ≤ z := by omega
  have hK := hR.2.2.1 v hv
  rw [hN] at hK
  obtain ⟨hn, ⟨gd, hgd, hgD⟩, hT, hC, hP, hL⟩ := id hK
  have hn : M (63 + 34 * v) = ndO (63 + 34 * v) (nI v) (nI 1) (nI (ksN N.1)) (pvI (ksF N.1)) N.2.2.1 N.2.2.2 := by rw [hup] at hn; exact hn
  obtain ⟨hcO, hcl, -, c1, c2, c3, c4, c5, c6, k1, k2, k3, k4, k5, k6, cX⟩ := id hC
  have hb5 := hI.2.1
  have hb113 := hI.1.top.2.1
  refine hz_aloadn (pc := 0) 0 (hz_dec kX11_unspent 0 rfl) rfl ?_
  refine hz_iloadn (pc := 1) 1 (hz_dec kX11_unspent 1 rfl) rfl ?_
  refine hz_xV (pc := 2) (a := 8) (As := [.int (nI v)]) (st := []) (hz_dec kX11_unspent 2 rfl) co_X11_162 im_X11_nodeOf se_X11_nodeOf rfl hH (by omega) (by omega) (c_nOf hz63 hH hnn hNs (b := v) hv) rfl (by decide) ⟨Nat.le_refl _, Nat.le_refl _⟩ (Nat.le_of_ble_eq_true rfl) rfl ?_
  refine hz_astore (pc := 5) (i := 4) (lo2 := [(4, .ref (63 + 34 * v)), (0, .ref 8), (1, .int (nI v)), (2, .int i), (3, .int (nI wh))]) (hz_dec kX11_unspent 3 rfl) (by decide) rfl ?_
  refine hz_aload (pc := 7) 0 (hz_dec kX11_unspent 4 rfl) rfl ?_
  refine hz_ifnull (pc := 9) (hz_dec kX11_unspent 5 rfl) ?_
  refine hz_aload (pc := 12) 0 (hz_dec kX11_unspent 6 rfl) rfl ?_
  refine hz_get (pc := 14) (hz_dec kX11_unspent 7 rfl) fo_X11_166 hn (by omega) (by omega) rfl ?_
  refine hz_z_eq (pc := 17) (tgt := 36) (hz_dec kX11_unspent 8 rfl) (by decide) (by omega) (fun hq1 => ?_) (fun hq1 => ?_)
  · skip
    exact absurd hq1 (by decide)
  · skip
    refine hz_iloadn (pc := 20) 3 (hz_dec kX11_unspent 9 rfl) rfl ?_
    refine hz_if_lt (pc := 21) (tgt := 36) (hz_dec kX11_unspent 10 rfl) (by decide) (fun h1 => ?_) (fun h1 => ?_)
    · skip
      refine hz_lconst (pc := 36) (v := 0) (hz_dec kX11_unspent 16 rfl) (by decide) ?_
      exact hz_lret (pc := 37) (hz_dec kX11_unspent 17 rfl) rfl (hcP.no hR _)
    · skip
      refine hz_iloadn (pc := 24) 3 (hz_dec kX11_unspent 11 rfl) rfl ?_
      refine hz_aload (pc := 25) 0 (hz_dec kX11_unspent 12 rfl) rfl ?_
      refine hz_get (pc := 27) (hz_dec kX11_unspent 13 rfl) fo_X11_170 hn (by omega) (by omega) rfl ?_
      refine hz_get (pc := 30) (hz_dec kX11_unspent 14 rfl) fo_X11_174 hcO (by omega) (by omega) rfl ?_
      refine hz_icmp_lt (pc := 33) (tgt := 38) (hz_dec kX11_unspent 15 rfl) (by decide) (fun h2 => ?_) (fun h2 => ?_)
      · skip
        exact absurd h2 (hi.resolve_left h1)
      · skip
        refine hz_lconst (pc := 36) (v := 0) (hz_dec kX11_unspent 16 rfl) (by decide) ?_
        exact hz_lret (pc := 37) (hz_dec kX11_unspent 17 rfl) rfl (hcP.no hR _)
set_option maxHeartbeats 4000000 in
set_option maxRecDepth 100000 in
theorem c_runspentI {κ : hz_C} {z B : Nat} {M : hz_M} {H : ho_H} (hnn : (hoN H).length ≤ 6) (hT4 : (hoT H).length ≤ 4000) (hR : hmR M z B H) {v : Nat} (hv : v < (hoN H).length) {N : nd_N} (hN : ndL (hoN H) v = N) {i : Int32} {wh : Nat} (hup : N.2.1 = true) (hI : ksI N.1) (hw : wh ≤ 5) (hi : i < 0 ∨ ¬ i < nI (coAt (ksB N.1) (enB (ksB N.1)) (ksT N.1)).length) : hz_Mt κ xX12_unspent 4 0 0 [.ref B, .int (nI v), .int i, .int (nI wh)] z M (hmP M z B (.long 0) H) := by
  refine hz_ent (lo := [(0, .ref B), (1, .int (nI v)), (2, .int i), (3, .int (nI wh))]) (by decide) (Nat.le_of_ble_eq_true rfl) rfl ?_
  obtain ⟨hk0_, hE0, ⟨m1, m2, m3⟩, hNd, a5, a6, a7, a8⟩ := id hR
  obtain ⟨⟨fs, hO, hF⟩, -, -, h8, hz⟩ := id hk0_
  obtain ⟨x1, x3, x4, x5, x6, x7, x8⟩ := id m3
  have eSt : stI (ndL (hoN H) v).2.1 = nI 0 := by rw [hN, hup]; rfl
  refine hz_aloadn (pc := 0) 0 (hz_dec kX12_unspent 0 rfl) rfl ?_
  refine hz_iconst (pc := 1) (v := nI 0) (hz_dec kX12_unspent 1 rfl) (by decide) ?_
  refine hz_puti (pc := 2) (hz_dec kX12_unspent 2 rfl) fo_X12_302 ft_X12_0 hO h8 (by omega) (by rw [hF.1]; decide) ?_
  have hf1 : mfr B [0, 89] [] M (va_up M B (.inr (12, (List.set fs 0 (.int (nI 0)))))) := (mfr.rf ⟨fs, hO, hF⟩).upO (k := 0) hO hF rfl rfl
  have hR1 : hmR (va_up M B (.inr (12, (List.set fs 0 (.int (nI 0)))))) z B H := hR.m0 hf1 hE0.upO ((fdB_of (va_up_self _ _ _) 89).trans ((List.getElem?_set_ne (by decide)).trans ((fdB_of hO 89).symm.trans x8)))
  generalize (va_up M B (.inr (12, (List.set fs 0 (.int (nI 0)))))) = M1 at *
  obtain ⟨hk1, hE1, ⟨n1, d1, q1⟩, hNd1, a51, a61, a71, a81⟩ := id hR1
  obtain ⟨⟨fs1, hO1, hF1⟩, -, -, -, -⟩ := id hk1
  have h0 : mdN M1 B v N := by have q := hNd1 v hv; rw [hN] at q; exact q
  have hv6 : v < 6 := by omega
  have h01 : mnS M1 B v 1 N.1 (pvI (ksF N.1)) (ksP N.1) := by have q := h0.1; rw [hup] at q; exact q
  have h02 : orX (fA M1 B) v (mkO (ksL N.1)) := by have q := h0.2.1; rw [hup] at q; exact q
  obtain ⟨p1, p2, p3, p4, ⟨p5a, p5b, p5c⟩, p6, p7, p9⟩ := id h01
  have hbp := hI.1.p hI.2.1
  obtain ⟨b1, b2, b3, b4, b5, b6, b7, b8⟩ := id hbp
  refine hz_aloadn (pc := 5) 0 (hz_dec kX12_unspent 3 rfl) rfl ?_
  refine hz_iloadn (pc := 6) 1 (hz_dec kX12_unspent 4 rfl) rfl ?_
  refine hz_xV (pc := 7) (a := B) (As := [.int (nI v)]) (st := []) (hz_dec kX12_unspent 5 rfl) co_X12_692 im_X12_stateOf se_X12_stateOf rfl hO1 h8 (by omega) (c_st hnn hR1 hv) rfl (by decide) ⟨Nat.le_refl _, Nat.le_refl _⟩ (Nat.le_of_ble_eq_true rfl) rfl ?_
  refine hz_eqi (pc := 10) eSt ?_
  refine hz_z_ne (pc := 10) (tgt := 22) (hz_dec kX12_unspent 6 rfl) (by decide) (by omega) (fun hq1 => ?_) (fun hq1 => ?_)
  · skip
    exact absurd hq1 (by decide)
  · skip
    refine hz_iloadn (pc := 13) 3 (hz_dec kX12_unspent 7 rfl) rfl ?_
    refine hz_z_lt (pc := 14) (tgt := 22) (hz_dec kX12_unspent 8 rfl) (by decide) (by omega) ?_
    refine hz_iloadn (pc := 17) 3 (hz_dec kX12_unspent 9 rfl) rfl ?_
    refine hz_iconst (pc := 18) (v := nI 5) (hz_dec kX12_unspent 10 rfl) (by decide) ?_
    refine hz_n_le (pc := 19) (tgt := 24) (hz_dec kX12_unspent 11 rfl) (by decide) (by omega) (by omega) (fun h2 => ?_) (fun h2 => ?_)
    · skip
      refine hz_aloadn (pc := 24) 0 (hz_dec kX12_unspent 14 rfl) rfl ?_
      refine hz_iloadn (pc := 25) 1 (hz_dec kX12_unspent 15 rfl) rfl ?_
      refine hz_aloadn (pc := 26) 0 (hz_dec kX12_unspent 16 rfl) rfl ?_
      refine hz_get (pc := 27) (v := .ref (B + 21)) (hz_dec kX12_unspent 17 rfl) fo_X12_74 hO1 h8 (by omega) (hF1.2 23 (by decide) (by decide)) ?_
      refine hz_iloadn (pc := 30) 1 (hz_dec kX12_unspent 18 rfl) rfl ?_
      refine hz_iald (pc := 31) (j := v) (hz_dec kX12_unspent 19 rfl) hE1.a21 (by omega) (by omega) rfl (by omega) (by decide) ?_
      refine hz_eqi (pc := 32) p5b.2.1 ?_
      refine hz_callV (pc := 32) (a := B) (As := [.int (nI v), .int (nI (ksT N.1))]) (st := []) (hz_dec kX12_unspent 20 rfl) co_X12_553 im_X12_unspentBehind se_X12_unspentBehind rfl hO1 h8 (by omega) (c_unR hR1 hnn hv hN hI) rfl (by decide) ⟨Nat.le_refl _, Nat.le_refl _⟩ (Nat.le_of_ble_eq_true rfl) rfl (fun r9 z9 M2 hp9 => ?_)
      obtain ⟨rfl, rfl, hu2, hR2, hc2⟩ := hp9
      obtain ⟨hmO, h53, hcl, c1, c2, c3, c4, c5, c6, k1, k2, k3, k4, k5, k6, cX⟩ := id hc2
      obtain ⟨fs2, hO2, hF2⟩ := hmO
      have g53 : fs2[53]? = some (.int (nI (coAt (ksB N.1) (enB (ksB N.1)) (ksT N.1)).length)) := (fdB_of hO2 53).symm.trans h53
      refine hz_iloadn (pc := 35) 2 (hz_dec kX12_unspent 21 rfl) rfl ?_
      refine hz_if_lt (pc := 36) (tgt := 47) (hz_dec kX12_unspent 22 rfl) (by decide) (fun h3 => ?_) (fun h3 => ?_)
      · skip
        refine hz_lconst (pc := 47) (v := 0) (hz_dec kX12_unspent 27 rfl) (by decide) ?_
        exact hz_lret (pc := 48) (hz_dec kX12_unspent 28 rfl) rfl ⟨rfl, rfl, (hf1.S rfl).tr (hu2.S rfl), hR2⟩
      · skip
        refine hz_iloadn (pc := 39) 2 (hz_dec kX12_unspent 23 rfl) rfl ?_
        refine hz_aloadn (pc := 40) 0 (hz_dec kX12_unspent 24 rfl) rfl ?_
        refine hz_get (pc := 41) (v := .int (nI ((coAt (ksB N.1) (enB (ksB N.1)) (ksT N.1)).length))) (hz_dec kX12_unspent 25 rfl) fo_X12_479 hO2 h8 (by omega) g53 ?_
        refine hz_icmp_lt (pc := 44) (tgt := 49) (hz_dec kX12_unspent 26 rfl) (by decide) (fun h4 => ?_) (fun h4 => ?_)
        · skip
          exact absurd h4 (hi.resolve_left h3)
        · skip
          refine hz_lconst (pc := 47) (v := 0) (hz_dec kX12_unspent 27 rfl) (by decide) ?_
          exact hz_lret (pc := 48) (hz_dec kX12_unspent 28 rfl) rfl ⟨rfl, rfl, (hf1.S rfl).tr (hu2.S rfl), hR2⟩
    · skip
      exact absurd hw (by omega)
set_option maxHeartbeats 4000000 in
set_option maxRecDepth 100000 in
theorem c_unspent0 {κ : hz_C} {z : Nat} {M : hz_M} {H : ho_H} (hz : 63 + 34 * (hoN H).length ≤ z) (hnn : (hoN H).length ≤ 6) (hT4 : (hoT H).length ≤ 4000) {ll : Nat} {fr kn : Int32} (hR : hcR M z H ll fr kn) {v : Nat} (hv : v < (hoN H).length) {N : nd_N} (hN : ndL (hoN H) v = N) {i : Nat} (hup : N.2.1 = true) (hI : ksI N.1) (hi : i < (coAt (ksB N.1) (enB (ksB N.1)) (ksT N.1)).length) : hz_Mt κ xX11_unspent 1 0 0 [.ref 8, .int (nI v), .int (nI i), .int (nI 0)] z M (hcP M z H (.long ((coL (coAt (ksB N.1) (enB (ksB N.1)) (ksT N.1)) i).1)) H) := by
  refine hz_ent (lo := [(0, .ref 8), (1, .int (nI v)), (2, .int (nI i)), (3, .int (nI 0))]) (by decide) (Nat.le_of_ble_eq_true rfl) rfl ?_
  have hH := hR.1
  have hNs := hR.2.1
  obtain ⟨hO, hQ, hD⟩ := id hR.2.2.2.2.1
  obtain ⟨g53, h53⟩ := hR.2.2.2.2.2.1
  have hJ := hR.2.2.2.1
  obtain ⟨g56, h56, hT56⟩ := hR.2.2.2.2.2.2.2.2.2.1
  have hdf := hR.2.2.2.2.2.2.2.2.2.2
  have hck : ck_k M z := hJ.2.2.2.2.2.2.2.1
  have hcs : ck_s M := hJ.2.2.2.2.2.2.2.2.1
  have hz63 : 63 ≤ z := by omega
  have hK := hR.2.2.1 v hv
  rw [hN] at hK
  obtain ⟨hn, ⟨gd, hgd, hgD⟩, hT, hC, hP, hL⟩ := id hK
  have hn : M (63 + 34 * v) = ndO (63 + 34 * v) (nI v) (nI 1) (nI (ksN N.1)) (pvI (ksF N.1)) N.2.2.1 N.2.2.2 := by rw [hup] at hn; exact hn
  obtain ⟨hcO, hcl, -, c1, c2, c3, c4, c5, c6, k1, k2, k3, k4, k5, k6, cX⟩ := id hC
  have hb5 := hI.2.1
  have hb113 := hI.1.top.2.1
  refine hz_aloadn (pc := 0) 0 (hz_dec kX11_unspent 0 rfl) rfl ?_
  refine hz_iloadn (pc := 1) 1 (hz_dec kX11_unspent 1 rfl) rfl ?_
  refine hz_xV (pc := 2) (a := 8) (As := [.int (nI v)]) (st := []) (hz_dec kX11_unspent 2 rfl) co_X11_162 im_X11_nodeOf se_X11_nodeOf rfl hH (by omega) (by omega) (c_nOf hz63 hH hnn hNs (b := v) hv) rfl (by decide) ⟨Nat.le_refl _, Nat.le_refl _⟩ (Nat.le_of_ble_eq_true rfl) rfl ?_
  refine hz_astore (pc := 5) (i := 4) (lo2 := [(4, .ref (63 + 34 * v)), (0, .ref 8), (1, .int (nI v)), (2, .int (nI i)), (3, .int (nI 0))]) (hz_dec kX11_unspent 3 rfl) (by decide) rfl ?_
  refine hz_aload (pc := 7) 0 (hz_dec kX11_unspent 4 rfl) rfl ?_
  refine hz_ifnull (pc := 9) (hz_dec kX11_unspent 5 rfl) ?_
  refine hz_aload (pc := 12) 0 (hz_dec kX11_unspent 6 rfl) rfl ?_
  refine hz_get (pc := 14) (hz_dec kX11_unspent 7 rfl) fo_X11_166 hn (by omega) (by omega) rfl ?_
  refine hz_z_eq (pc := 17) (tgt := 36) (hz_dec kX11_unspent 8 rfl) (by decide) (by omega) (fun hq1 => ?_) (fun hq1 => ?_)
  · skip
    exact absurd hq1 (by decide)
  · skip
    refine hz_iloadn (pc := 20) 3 (hz_dec kX11_unspent 9 rfl) rfl ?_
    refine hz_z_lt (pc := 21) (tgt := 36) (hz_dec kX11_unspent 10 rfl) (by decide) (by omega) ?_
    refine hz_iloadn (pc := 24) 3 (hz_dec kX11_unspent 11 rfl) rfl ?_
    refine hz_aload (pc := 25) 0 (hz_dec kX11_unspent 12 rfl) rfl ?_
    refine hz_get (pc := 27) (hz_dec kX11_unspent 13 rfl) fo_X11_170 hn (by omega) (by omega) rfl ?_
    refine hz_get (pc := 30) (hz_dec kX11_unspent 14 rfl) fo_X11_174 hcO (by omega) (by omega) rfl ?_
    refine hz_n_lt (pc := 33) (tgt := 38) (hz_dec kX11_unspent 15 rfl) (by decide) (by omega) (by omega) (fun h2 => ?_) (fun h2 => ?_)
    · skip
      refine hz_aload (pc := 38) 0 (hz_dec kX11_unspent 18 rfl) rfl ?_
      refine hz_get (pc := 40) (hz_dec kX11_unspent 19 rfl) fo_X11_170 hn (by omega) (by omega) rfl ?_
      refine hz_astore (pc := 43) (i := 5) (lo2 := [(5, .ref (63 + 34 * v + 2)), (4, .ref (63 + 34 * v)), (0, .ref 8), (1, .int (nI v)), (2, .int (nI i)), (3, .int (nI 0))]) (hz_dec kX11_unspent 20 rfl) (by decide) rfl ?_
      refine hz_iloadn (pc := 45) 5 (hz_dec kX11_unspent 21 rfl) rfl ?_
      refine hz_swIn (pc := 46) (off := 38) (tgt := 84) (hz_dec kX11_unspent 22 rfl) (by decide) (by decide) rfl (by decide) ?_
      refine hz_aload (pc := 84) 0 (hz_dec kX11_unspent 23 rfl) rfl ?_
      refine hz_get (pc := 86) (hz_dec kX11_unspent 24 rfl) fo_X11_179 hcO (by omega) (by omega) rfl ?_
      refine hz_iloadn (pc := 89) 4 (hz_dec kX11_unspent 25 rfl) rfl ?_
      refine hz_lald (pc := 90) (j := i) (hz_dec kX11_unspent 26 rfl) k1 (by omega) (by omega) rfl (by omega) (by decide) ?_
      refine hz_eql (pc := 91) (cX i hi).1 ?_
      exact hz_lret (pc := 91) (hz_dec kX11_unspent 27 rfl) rfl (hcP.no hR _)
    · skip
      exact absurd hi (by omega)
set_option maxHeartbeats 4000000 in
set_option maxRecDepth 100000 in
theorem c_runspent0 {κ : hz_C} {z B : Nat} {M : hz_M} {H : ho_H} (hnn : (hoN H).length ≤ 6) (hT4 : (hoT H).length ≤ 4000) (hR : hmR M z B H) {v : Nat} (hv : v < (hoN H).length) {N : nd_N} (hN : ndL (hoN H) v = N) {i : Nat} (hup : N.2.1 = true) (hI : ksI N.1) (hi : i < (coAt (ksB N.1) (enB (ksB N.1)) (ksT N.1)).length) : hz_Mt κ xX12_unspent 4 0 0 [.ref B, .int (nI v), .int (nI i), .int (nI 0)] z M (hmP M z B (.long ((coL (coAt (ksB N.1) (enB (ksB N.1)) (ksT N.1)) i).1)) H) := by
  refine hz_ent (lo := [(0, .ref B), (1, .int (nI v)), (2, .int (nI i)), (3, .int (nI 0))]) (by decide) (Nat.le_of_ble_eq_true rfl) rfl ?_
  obtain ⟨hk0_, hE0, ⟨m1, m2, m3⟩, hNd, a5, a6, a7, a8⟩ := id hR
  obtain ⟨⟨fs, hO, hF⟩, -, -, h8, hz⟩ := id hk0_
  obtain ⟨x1, x3, x4, x5, x6, x7, x8⟩ := id m3
  have eSt : stI (ndL (hoN H) v).2.1 = nI 0 := by rw [hN, hup]; rfl
  refine hz_aloadn (pc := 0) 0 (hz_dec kX12_unspent 0 rfl) rfl ?_
  refine hz_iconst (pc := 1) (v := nI 0) (hz_dec kX12_unspent 1 rfl) (by decide) ?_
  refine hz_puti (pc := 2) (hz_dec kX12_unspent 2 rfl) fo_X12_302 ft_X12_0 hO h8 (by omega) (by rw [hF.1]; decide) ?_
  have hf1 : mfr B [0, 89] [] M (va_up M B (.inr (12, (List.set fs 0 (.int (nI 0)))))) := (mfr.rf ⟨fs, hO, hF⟩).upO (k := 0) hO hF rfl rfl
  have hR1 : hmR (va_up M B (.inr (12, (List.set fs 0 (.int (nI 0)))))) z B H := hR.m0 hf1 hE0.upO ((fdB_of (va_up_self _ _ _) 89).trans ((List.getElem?_set_ne (by decide)).trans ((fdB_of hO 89).symm.trans x8)))
  generalize (va_up M B (.inr (12, (List.set fs 0 (.int (nI 0)))))) = M1 at *
  obtain ⟨hk1, hE1, ⟨n1, d1, q1⟩, hNd1, a51, a61, a71, a81⟩ := id hR1
  obtain ⟨⟨fs1, hO1, hF1⟩, -, -, -, -⟩ := id hk1
  have h0 : mdN M1 B v N := by have q := hNd1 v hv; rw [hN] at q; exact q
  have hv6 : v < 6 := by omega
  have h01 : mnS M1 B v 1 N.1 (pvI (ksF N.1)) (ksP N.1) := by have q := h0.1; rw [hup] at q; exact q
  have h02 : orX (fA M1 B) v (mkO (ksL N.1)) := by have q := h0.2.1; rw [hup] at q; exact q
  obtain ⟨p1, p2, p3, p4, ⟨p5a, p5b, p5c⟩, p6, p7, p9⟩ := id h01
  have hbp := hI.1.p hI.2.1
  obtain ⟨b1, b2, b3, b4, b5, b6, b7, b8⟩ := id hbp
  refine hz_aloadn (pc := 5) 0 (hz_dec kX12_unspent 3 rfl) rfl ?_
  refine hz_iloadn (pc := 6) 1 (hz_dec kX12_unspent 4 rfl) rfl ?_
  refine hz_xV (pc := 7) (a := B) (As := [.int (nI v)]) (st := []) (hz_dec kX12_unspent 5 rfl) co_X12_692 im_X12_stateOf se_X12_stateOf rfl hO1 h8 (by omega) (c_st hnn hR1 hv) rfl (by decide) ⟨Nat.le_refl _, Nat.le_refl _⟩ (Nat.le_of_ble_eq_true rfl) rfl ?_
  refine hz_eqi (pc := 10) eSt ?_
  refine hz_z_ne (pc := 10) (tgt := 22) (hz_dec kX12_unspent 6 rfl) (by decide) (by omega) (fun hq1 => ?_) (fun hq1 => ?_)
  · skip
    exact absurd hq1 (by decide)
  · skip
    refine hz_iloadn (pc := 13) 3 (hz_dec kX12_unspent 7 rfl) rfl ?_
    refine hz_z_lt (pc := 14) (tgt := 22) (hz_dec kX12_unspent 8 rfl) (by decide) (by omega) ?_
    refine hz_iloadn (pc := 17) 3 (hz_dec kX12_unspent 9 rfl) rfl ?_
    refine hz_iconst (pc := 18) (v := nI 5) (hz_dec kX12_unspent 10 rfl) (by decide) ?_
    refine hz_n_le (pc := 19) (tgt := 24) (hz_dec kX12_unspent 11 rfl) (by decide) (by omega) (by omega) (fun hq3 => ?_) (fun hq3 => ?_)
    · skip
      refine hz_aloadn (pc := 24) 0 (hz_dec kX12_unspent 14 rfl) rfl ?_
      refine hz_iloadn (pc := 25) 1 (hz_dec kX12_unspent 15 rfl) rfl ?_
      refine hz_aloadn (pc := 26) 0 (hz_dec kX12_unspent 16 rfl) rfl ?_
      refine hz_get (pc := 27) (v := .ref (B + 21)) (hz_dec kX12_unspent 17 rfl) fo_X12_74 hO1 h8 (by omega) (hF1.2 23 (by decide) (by decide)) ?_
      refine hz_iloadn (pc := 30) 1 (hz_dec kX12_unspent 18 rfl) rfl ?_
      refine hz_iald (pc := 31) (j := v) (hz_dec kX12_unspent 19 rfl) hE1.a21 (by omega) (by omega) rfl (by omega) (by decide) ?_
      refine hz_eqi (pc := 32) p5b.2.1 ?_
      refine hz_callV (pc := 32) (a := B) (As := [.int (nI v), .int (nI (ksT N.1))]) (st := []) (hz_dec kX12_unspent 20 rfl) co_X12_553 im_X12_unspentBehind se_X12_unspentBehind rfl hO1 h8 (by omega) (c_unR hR1 hnn hv hN hI) rfl (by decide) ⟨Nat.le_refl _, Nat.le_refl _⟩ (Nat.le_of_ble_eq_true rfl) rfl (fun r9 z9 M2 hp9 => ?_)
      obtain ⟨rfl, rfl, hu2, hR2, hc2⟩ := hp9
      obtain ⟨hmO, h53, hcl, c1, c2, c3, c4, c5, c6, k1, k2, k3, k4, k5, k6, cX⟩ := id hc2
      obtain ⟨fs2, hO2, hF2⟩ := hmO
      have g53 : fs2[53]? = some (.int (nI (coAt (ksB N.1) (enB (ksB N.1)) (ksT N.1)).length)) := (fdB_of hO2 53).symm.trans h53
      refine hz_iloadn (pc := 35) 2 (hz_dec kX12_unspent 21 rfl) rfl ?_
      refine hz_z_lt (pc := 36) (tgt := 47) (hz_dec kX12_unspent 22 rfl) (by decide) (by omega) ?_
      refine hz_iloadn (pc := 39) 2 (hz_dec kX12_unspent 23 rfl) rfl ?_
      refine hz_aloadn (pc := 40) 0 (hz_dec kX12_unspent 24 rfl) rfl ?_
      refine hz_get (pc := 41) (v := .int (nI ((coAt (ksB N.1) (enB (ksB N.1)) (ksT N.1)).length))) (hz_dec kX12_unspent 25 rfl) fo_X12_479 hO2 h8 (by omega) g53 ?_
      refine hz_n_lt (pc := 44) (tgt := 49) (hz_dec kX12_unspent 26 rfl) (by decide) (by omega) (by omega) (fun h2 => ?_) (fun h2 => ?_)
      · skip
        refine hz_iloadn (pc := 49) 3 (hz_dec kX12_unspent 29 rfl) rfl ?_
        refine hz_swIn (pc := 50) (off := 34) (tgt := 84) (hz_dec kX12_unspent 30 rfl) (by decide) (by decide) rfl (by decide) ?_
        refine hz_aloadn (pc := 84) 0 (hz_dec kX12_unspent 31 rfl) rfl ?_
        refine hz_get (pc := 85) (v := .ref (B + 43)) (hz_dec kX12_unspent 32 rfl) fo_X12_140 hO2 h8 (by omega) (hF2.2 47 (by decide) (by decide)) ?_
        refine hz_iloadn (pc := 88) 2 (hz_dec kX12_unspent 33 rfl) rfl ?_
        refine hz_lald (pc := 89) (j := i) (hz_dec kX12_unspent 34 rfl) k1 (by omega) (by omega) rfl (by omega) (by decide) ?_
        refine hz_eql (pc := 90) (cX i hi).1 ?_
        exact hz_lret (pc := 90) (hz_dec kX12_unspent 35 rfl) rfl ⟨rfl, rfl, (hf1.S rfl).tr (hu2.S rfl), hR2⟩
      · skip
        exact absurd hi (by omega)
    · skip
      exact absurd hq3 (by decide)
set_option maxHeartbeats 4000000 in
set_option maxRecDepth 100000 in
theorem c_unspent1 {κ : hz_C} {z : Nat} {M : hz_M} {H : ho_H} (hz : 63 + 34 * (hoN H).length ≤ z) (hnn : (hoN H).length ≤ 6) (hT4 : (hoT H).length ≤ 4000) {ll : Nat} {fr kn : Int32} (hR : hcR M z H ll fr kn) {v : Nat} (hv : v < (hoN H).length) {N : nd_N} (hN : ndL (hoN H) v = N) {i : Nat} (hup : N.2.1 = true) (hI : ksI N.1) (hi : i < (coAt (ksB N.1) (enB (ksB N.1)) (ksT N.1)).length) : hz_Mt κ xX11_unspent 1 0 0 [.ref 8, .int (nI v), .int (nI i), .int (nI 1)] z M (hcP M z H (.long ((coL (coAt (ksB N.1) (enB (ksB N.1)) (ksT N.1)) i).2.1.toInt64)) H) := by
  refine hz_ent (lo := [(0, .ref 8), (1, .int (nI v)), (2, .int (nI i)), (3, .int (nI 1))]) (by decide) (Nat.le_of_ble_eq_true rfl) rfl ?_
  have hH := hR.1
  have hNs := hR.2.1
  obtain ⟨hO, hQ, hD⟩ := id hR.2.2.2.2.1
  obtain ⟨g53, h53⟩ := hR.2.2.2.2.2.1
  have hJ := hR.2.2.2.1
  obtain ⟨g56, h56, hT56⟩ := hR.2.2.2.2.2.2.2.2.2.1
  have hdf := hR.2.2.2.2.2.2.2.2.2.2
  have hck : ck_k M z := hJ.2.2.2.2.2.2.2.1
  have hcs : ck_s M := hJ.2.2.2.2.2.2.2.2.1
  have hz63 : 63 ≤ z := by omega
  have hK := hR.2.2.1 v hv
  rw [hN] at hK
  obtain ⟨hn, ⟨gd, hgd, hgD⟩, hT, hC, hP, hL⟩ := id hK
  have hn : M (63 + 34 * v) = ndO (63 + 34 * v) (nI v) (nI 1) (nI (ksN N.1)) (pvI (ksF N.1)) N.2.2.1 N.2.2.2 := by rw [hup] at hn; exact hn
  obtain ⟨hcO, hcl, -, c1, c2, c3, c4, c5, c6, k1, k2, k3, k4, k5, k6, cX⟩ := id hC
  have hb5 := hI.2.1
  have hb113 := hI.1.top.2.1
  refine hz_aloadn (pc := 0) 0 (hz_dec kX11_unspent 0 rfl) rfl ?_
  refine hz_iloadn (pc := 1) 1 (hz_dec kX11_unspent 1 rfl) rfl ?_
  refine hz_xV (pc := 2) (a := 8) (As := [.int (nI v)]) (st := []) (hz_dec kX11_unspent 2 rfl) co_X11_162 im_X11_nodeOf se_X11_nodeOf rfl hH (by omega) (by omega) (c_nOf hz63 hH hnn hNs (b := v) hv) rfl (by decide) ⟨Nat.le_refl _, Nat.le_refl _⟩ (Nat.le_of_ble_eq_true rfl) rfl ?_
  refine hz_astore (pc := 5) (i := 4) (lo2 := [(4, .ref (63 + 34 * v)), (0, .ref 8), (1, .int (nI v)), (2, .int (nI i)), (3, .int (nI 1))]) (hz_dec kX11_unspent 3 rfl) (by decide) rfl ?_
  refine hz_aload (pc := 7) 0 (hz_dec kX11_unspent 4 rfl) rfl ?_
  refine hz_ifnull (pc := 9) (hz_dec kX11_unspent 5 rfl) ?_
  refine hz_aload (pc := 12) 0 (hz_dec kX11_unspent 6 rfl) rfl ?_
  refine hz_get (pc := 14) (hz_dec kX11_unspent 7 rfl) fo_X11_166 hn (by omega) (by omega) rfl ?_
  refine hz_z_eq (pc := 17) (tgt := 36) (hz_dec kX11_unspent 8 rfl) (by decide) (by omega) (fun hq1 => ?_) (fun hq1 => ?_)
  · skip
    exact absurd hq1 (by decide)
  · skip
    refine hz_iloadn (pc := 20) 3 (hz_dec kX11_unspent 9 rfl) rfl ?_
    refine hz_z_lt (pc := 21) (tgt := 36) (hz_dec kX11_unspent 10 rfl) (by decide) (by omega) ?_
    refine hz_iloadn (pc := 24) 3 (hz_dec kX11_unspent 11 rfl) rfl ?_
    refine hz_aload (pc := 25) 0 (hz_dec kX11_unspent 12 rfl) rfl ?_
    refine hz_get (pc := 27) (hz_dec kX11_unspent 13 rfl) fo_X11_170 hn (by omega) (by omega) rfl ?_
    refine hz_get (pc := 30) (hz_dec kX11_unspent 14 rfl) fo_X11_174 hcO (by omega) (by omega) rfl ?_
    refine hz_n_lt (pc := 33) (tgt := 38) (hz_dec kX11_unspent 15 rfl) (by decide) (by omega) (by omega) (fun h2 => ?_) (fun h2 => ?_)
    · skip
      refine hz_aload (pc := 38) 0 (hz_dec kX11_unspent 18 rfl) rfl ?_
      refine hz_get (pc := 40) (hz_dec kX11_unspent 19 rfl) fo_X11_170 hn (by omega) (by omega) rfl ?_
      refine hz_astore (pc := 43) (i := 5) (lo2 := [(5, .ref (63 + 34 * v + 2)), (4, .ref (63 + 34 * v)), (0, .ref 8), (1, .int (nI v)), (2, .int (nI i)), (3, .int (nI 1))]) (hz_dec kX11_unspent 20 rfl) (by decide) rfl ?_
      refine hz_iloadn (pc := 45) 5 (hz_dec kX11_unspent 21 rfl) rfl ?_
      refine hz_swIn (pc := 46) (off := 46) (tgt := 92) (hz_dec kX11_unspent 22 rfl) (by decide) (by decide) rfl (by decide) ?_
      refine hz_aload (pc := 92) 0 (hz_dec kX11_unspent 28 rfl) rfl ?_
      refine hz_get (pc := 94) (hz_dec kX11_unspent 29 rfl) fo_X11_182 hcO (by omega) (by omega) rfl ?_
      refine hz_iloadn (pc := 97) 4 (hz_dec kX11_unspent 30 rfl) rfl ?_
      refine hz_iald (pc := 98) (j := i) (hz_dec kX11_unspent 31 rfl) k2 (by omega) (by omega) rfl (by omega) (by decide) ?_
      refine hz_eqi (pc := 99) (cX i hi).2.1 ?_
      refine hz_i2l (pc := 99) (hz_dec kX11_unspent 32 rfl) ?_
      exact hz_lret (pc := 100) (hz_dec kX11_unspent 33 rfl) rfl (hcP.no hR _)
    · skip
      exact absurd hi (by omega)
set_option maxHeartbeats 4000000 in
set_option maxRecDepth 100000 in
theorem c_runspent1 {κ : hz_C} {z B : Nat} {M : hz_M} {H : ho_H} (hnn : (hoN H).length ≤ 6) (hT4 : (hoT H).length ≤ 4000) (hR : hmR M z B H) {v : Nat} (hv : v < (hoN H).length) {N : nd_N} (hN : ndL (hoN H) v = N) {i : Nat} (hup : N.2.1 = true) (hI : ksI N.1) (hi : i < (coAt (ksB N.1) (enB (ksB N.1)) (ksT N.1)).length) : hz_Mt κ xX12_unspent 4 0 0 [.ref B, .int (nI v), .int (nI i), .int (nI 1)] z M (hmP M z B (.long ((coL (coAt (ksB N.1) (enB (ksB N.1)) (ksT N.1)) i).2.1.toInt64)) H) := by
  refine hz_ent (lo := [(0, .ref B), (1, .int (nI v)), (2, .int (nI i)), (3, .int (nI 1))]) (by decide) (Nat.le_of_ble_eq_true rfl) rfl ?_
  obtain ⟨hk0_, hE0, ⟨m1, m2, m3⟩, hNd, a5, a6, a7, a8⟩ := id hR
  obtain ⟨⟨fs, hO, hF⟩, -, -, h8, hz⟩ := id hk0_
  obtain ⟨x1, x3, x4, x5, x6, x7, x8⟩ := id m3
  have eSt : stI (ndL (hoN H) v).2.1 = nI 0 := by rw [hN, hup]; rfl
  refine hz_aloadn (pc := 0) 0 (hz_dec kX12_unspent 0 rfl) rfl ?_
  refine hz_iconst (pc := 1) (v := nI 0) (hz_dec kX12_unspent 1 rfl) (by decide) ?_
  refine hz_puti (pc := 2) (hz_dec kX12_unspent 2 rfl) fo_X12_302 ft_X12_0 hO h8 (by omega) (by rw [hF.1]; decide) ?_
  have hf1 : mfr B [0, 89] [] M (va_up M B (.inr (12, (List.set fs 0 (.int (nI 0)))))) := (mfr.rf ⟨fs, hO, hF⟩).upO (k := 0) hO hF rfl rfl
  have hR1 : hmR (va_up M B (.inr (12, (List.set fs 0 (.int (nI 0)))))) z B H := hR.m0 hf1 hE0.upO ((fdB_of (va_up_self _ _ _) 89).trans ((List.getElem?_set_ne (by decide)).trans ((fdB_of hO 89).symm.trans x8)))
  generalize (va_up M B (.inr (12, (List.set fs 0 (.int (nI 0)))))) = M1 at *
  obtain ⟨hk1, hE1, ⟨n1, d1, q1⟩, hNd1, a51, a61, a71, a81⟩ := id hR1
  obtain ⟨⟨fs1, hO1, hF1⟩, -, -, -, -⟩ := id hk1
  have h0 : mdN M1 B v N := by have q := hNd1 v hv; rw [hN] at q; exact q
  have hv6 : v < 6 := by omega
  have h01 : mnS M1 B v 1 N.1 (pvI (ksF N.1)) (ksP N.1) := by have q := h0.1; rw [hup] at q; exact q
  have h02 : orX (fA M1 B) v (mkO (ksL N.1)) := by have q := h0.2.1; rw [hup] at q; exact q
  obtain ⟨p1, p2, p3, p4, ⟨p5a, p5b, p5c⟩, p6, p7, p9⟩ := id h01
  have hbp := hI.1.p hI.2.1
  obtain ⟨b1, b2, b3, b4, b5, b6, b7, b8⟩ := id hbp
  refine hz_aloadn (pc := 5) 0 (hz_dec kX12_unspent 3 rfl) rfl ?_
  refine hz_iloadn (pc := 6) 1 (hz_dec kX12_unspent 4 rfl) rfl ?_
  refine hz_xV (pc := 7) (a := B) (As := [.int (nI v)]) (st := []) (hz_dec kX12_unspent 5 rfl) co_X12_692 im_X12_stateOf se_X12_stateOf rfl hO1 h8 (by omega) (c_st hnn hR1 hv) rfl (by decide) ⟨Nat.le_refl _, Nat.le_refl _⟩ (Nat.le_of_ble_eq_true rfl) rfl ?_
  refine hz_eqi (pc := 10) eSt ?_
  refine hz_z_ne (pc := 10) (tgt := 22) (hz_dec kX12_unspent 6 rfl) (by decide) (by omega) (fun hq1 => ?_) (fun hq1 => ?_)
  · skip
    exact absurd hq1 (by decide)
  · skip
    refine hz_iloadn (pc := 13) 3 (hz_dec kX12_unspent 7 rfl) rfl ?_
    refine hz_z_lt (pc := 14) (tgt := 22) (hz_dec kX12_unspent 8 rfl) (by decide) (by omega) ?_
    refine hz_iloadn (pc := 17) 3 (hz_dec kX12_unspent 9 rfl) rfl ?_
    refine hz_iconst (pc := 18) (v := nI 5) (hz_dec kX12_unspent 10 rfl) (by decide) ?_
    refine hz_n_le (pc := 19) (tgt := 24) (hz_dec kX12_unspent 11 rfl) (by decide) (by omega) (by omega) (fun hq3 => ?_) (fun hq3 => ?_)
    · skip
      refine hz_aloadn (pc := 24) 0 (hz_dec kX12_unspent 14 rfl) rfl ?_
      refine hz_iloadn (pc := 25) 1 (hz_dec kX12_unspent 15 rfl) rfl ?_
      refine hz_aloadn (pc := 26) 0 (hz_dec kX12_unspent 16 rfl) rfl ?_
      refine hz_get (pc := 27) (v := .ref (B + 21)) (hz_dec kX12_unspent 17 rfl) fo_X12_74 hO1 h8 (by omega) (hF1.2 23 (by decide) (by decide)) ?_
      refine hz_iloadn (pc := 30) 1 (hz_dec kX12_unspent 18 rfl) rfl ?_
      refine hz_iald (pc := 31) (j := v) (hz_dec kX12_unspent 19 rfl) hE1.a21 (by omega) (by omega) rfl (by omega) (by decide) ?_
      refine hz_eqi (pc := 32) p5b.2.1 ?_
      refine hz_callV (pc := 32) (a := B) (As := [.int (nI v), .int (nI (ksT N.1))]) (st := []) (hz_dec kX12_unspent 20 rfl) co_X12_553 im_X12_unspentBehind se_X12_unspentBehind rfl hO1 h8 (by omega) (c_unR hR1 hnn hv hN hI) rfl (by decide) ⟨Nat.le_refl _, Nat.le_refl _⟩ (Nat.le_of_ble_eq_true rfl) rfl (fun r9 z9 M2 hp9 => ?_)
      obtain ⟨rfl, rfl, hu2, hR2, hc2⟩ := hp9
      obtain ⟨hmO, h53, hcl, c1, c2, c3, c4, c5, c6, k1, k2, k3, k4, k5, k6, cX⟩ := id hc2
      obtain ⟨fs2, hO2, hF2⟩ := hmO
      have g53 : fs2[53]? = some (.int (nI (coAt (ksB N.1) (enB (ksB N.1)) (ksT N.1)).length)) := (fdB_of hO2 53).symm.trans h53
      refine hz_iloadn (pc := 35) 2 (hz_dec kX12_unspent 21 rfl) rfl ?_
      refine hz_z_lt (pc := 36) (tgt := 47) (hz_dec kX12_unspent 22 rfl) (by decide) (by omega) ?_
      refine hz_iloadn (pc := 39) 2 (hz_dec kX12_unspent 23 rfl) rfl ?_
      refine hz_aloadn (pc := 40) 0 (hz_dec kX12_unspent 24 rfl) rfl ?_
      refine hz_get (pc := 41) (v := .int (nI ((coAt (ksB N.1) (enB (ksB N.1)) (ksT N.1)).length))) (hz_dec kX12_unspent 25 rfl) fo_X12_479 hO2 h8 (by omega) g53 ?_
      refine hz_n_lt (pc := 44) (tgt := 49) (hz_dec kX12_unspent 26 rfl) (by decide) (by omega) (by omega) (fun h2 => ?_) (fun h2 => ?_)
      · skip
        refine hz_iloadn (pc := 49) 3 (hz_dec kX12_unspent 29 rfl) rfl ?_
        refine hz_swIn (pc := 50) (off := 41) (tgt := 91) (hz_dec kX12_unspent 30 rfl) (by decide) (by decide) rfl (by decide) ?_
        refine hz_aloadn (pc := 91) 0 (hz_dec kX12_unspent 36 rfl) rfl ?_
        refine hz_get (pc := 92) (v := .ref (B + 44)) (hz_dec kX12_unspent 37 rfl) fo_X12_143 hO2 h8 (by omega) (hF2.2 48 (by decide) (by decide)) ?_
        refine hz_iloadn (pc := 95) 2 (hz_dec kX12_unspent 38 rfl) rfl ?_
        refine hz_iald (pc := 96) (j := i) (hz_dec kX12_unspent 39 rfl) k2 (by omega) (by omega) rfl (by omega) (by decide) ?_
        refine hz_eqi (pc := 97) (cX i hi).2.1 ?_
        refine hz_i2l (pc := 97) (hz_dec kX12_unspent 40 rfl) ?_
        exact hz_lret (pc := 98) (hz_dec kX12_unspent 41 rfl) rfl ⟨rfl, rfl, (hf1.S rfl).tr (hu2.S rfl), hR2⟩
      · skip
        exact absurd hi (by omega)
    · skip
      exact absurd hq3 (by decide)
set_option maxHeartbeats 4000000 in
set_option maxRecDepth 100000 in
theorem c_unspent2 {κ : hz_C} {z : Nat} {M : hz_M} {H : ho_H} (hz : 63 + 34 * (hoN H).length ≤ z) (hnn : (hoN H).length ≤ 6) (hT4 : (hoT H).length ≤ 4000) {ll : Nat} {fr kn : Int32} (hR : hcR M z H ll fr kn) {v : Nat} (hv : v < (hoN H).length) {N : nd_N} (hN : ndL (hoN H) v = N) {i : Nat} (hup : N.2.1 = true) (hI : ksI N.1) (hi : i < (coAt (ksB N.1) (enB (ksB N.1)) (ksT N.1)).length) : hz_Mt κ xX11_unspent 1 0 0 [.ref 8, .int (nI v), .int (nI i), .int (nI 2)] z M (hcP M z H (.long ((coL (coAt (ksB N.1) (enB (ksB N.1)) (ksT N.1)) i).2.2.1)) H) := by
  refine hz_ent (lo := [(0, .ref 8), (1, .int (nI v)), (2, .int (nI i)), (3, .int (nI 2))]) (by decide) (Nat.le_of_ble_eq_true rfl) rfl ?_
  have hH := hR.1
  have hNs := hR.2.1
  obtain ⟨hO, hQ, hD⟩ := id hR.2.2.2.2.1
  obtain ⟨g53, h53⟩ := hR.2.2.2.2.2.1
  have hJ := hR.2.2.2.1
  obtain ⟨g56, h56, hT56⟩ := hR.2.2.2.2.2.2.2.2.2.1
  have hdf := hR.2.2.2.2.2.2.2.2.2.2
  have hck : ck_k M z := hJ.2.2.2.2.2.2.2.1
  have hcs : ck_s M := hJ.2.2.2.2.2.2.2.2.1
  have hz63 : 63 ≤ z := by omega
  have hK := hR.2.2.1 v hv
  rw [hN] at hK
  obtain ⟨hn, ⟨gd, hgd, hgD⟩, hT, hC, hP, hL⟩ := id hK
  have hn : M (63 + 34 * v) = ndO (63 + 34 * v) (nI v) (nI 1) (nI (ksN N.1)) (pvI (ksF N.1)) N.2.2.1 N.2.2.2 := by rw [hup] at hn; exact hn
  obtain ⟨hcO, hcl, -, c1, c2, c3, c4, c5, c6, k1, k2, k3, k4, k5, k6, cX⟩ := id hC
  have hb5 := hI.2.1
  have hb113 := hI.1.top.2.1
  refine hz_aloadn (pc := 0) 0 (hz_dec kX11_unspent 0 rfl) rfl ?_
  refine hz_iloadn (pc := 1) 1 (hz_dec kX11_unspent 1 rfl) rfl ?_
  refine hz_xV (pc := 2) (a := 8) (As := [.int (nI v)]) (st := []) (hz_dec kX11_unspent 2 rfl) co_X11_162 im_X11_nodeOf se_X11_nodeOf rfl hH (by omega) (by omega) (c_nOf hz63 hH hnn hNs (b := v) hv) rfl (by decide) ⟨Nat.le_refl _, Nat.le_refl _⟩ (Nat.le_of_ble_eq_true rfl) rfl ?_
  refine hz_astore (pc := 5) (i := 4) (lo2 := [(4, .ref (63 + 34 * v)), (0, .ref 8), (1, .int (nI v)), (2, .int (nI i)), (3, .int (nI 2))]) (hz_dec kX11_unspent 3 rfl) (by decide) rfl ?_
  refine hz_aload (pc := 7) 0 (hz_dec kX11_unspent 4 rfl) rfl ?_
  refine hz_ifnull (pc := 9) (hz_dec kX11_unspent 5 rfl) ?_
  refine hz_aload (pc := 12) 0 (hz_dec kX11_unspent 6 rfl) rfl ?_
  refine hz_get (pc := 14) (hz_dec kX11_unspent 7 rfl) fo_X11_166 hn (by omega) (by omega) rfl ?_
  refine hz_z_eq (pc := 17) (tgt := 36) (hz_dec kX11_unspent 8 rfl) (by decide) (by omega) (fun hq1 => ?_) (fun hq1 => ?_)
  · skip
    exact absurd hq1 (by decide)
  · skip
    refine hz_iloadn (pc := 20) 3 (hz_dec kX11_unspent 9 rfl) rfl ?_
    refine hz_z_lt (pc := 21) (tgt := 36) (hz_dec kX11_unspent 10 rfl) (by decide) (by omega) ?_
    refine hz_iloadn (pc := 24) 3 (hz_dec kX11_unspent 11 rfl) rfl ?_
    refine hz_aload (pc := 25) 0 (hz_dec kX11_unspent 12 rfl) rfl ?_
    refine hz_get (pc := 27) (hz_dec kX11_unspent 13 rfl) fo_X11_170 hn (by omega) (by omega) rfl ?_
    refine hz_get (pc := 30) (hz_dec kX11_unspent 14 rfl) fo_X11_174 hcO (by omega) (by omega) rfl ?_
    refine hz_n_lt (pc := 33) (tgt := 38) (hz_dec kX11_unspent 15 rfl) (by decide) (by omega) (by omega) (fun h2 => ?_) (fun h2 => ?_)
    · skip
      refine hz_aload (pc := 38) 0 (hz_dec kX11_unspent 18 rfl) rfl ?_
      refine hz_get (pc := 40) (hz_dec kX11_unspent 19 rfl) fo_X11_170 hn (by omega) (by omega) rfl ?_
      refine hz_astore (pc := 43) (i := 5) (lo2 := [(5, .ref (63 + 34 * v + 2)), (4, .ref (63 + 34 * v)), (0, .ref 8), (1, .int (nI v)), (2, .int (nI i)), (3, .int (nI 2))]) (hz_dec kX11_unspent 20 rfl) (by decide) rfl ?_
      refine hz_iloadn (pc := 45) 5 (hz_dec kX11_unspent 21 rfl) rfl ?_
      refine hz_swIn (pc := 46) (off := 55) (tgt := 101) (hz_dec kX11_unspent 22 rfl) (by decide) (by decide) rfl (by decide) ?_
      refine hz_aload (pc := 101) 0 (hz_dec kX11_unspent 34 rfl) rfl ?_
      refine hz_get (pc := 103) (hz_dec kX11_unspent 35 rfl) fo_X11_410 hcO (by omega) (by omega) rfl ?_
      refine hz_iloadn (pc := 106) 4 (hz_dec kX11_unspent 36 rfl) rfl ?_
      refine hz_lald (pc := 107) (j := i) (hz_dec kX11_unspent 37 rfl) k3 (by omega) (by omega) rfl (by omega) (by decide) ?_
      refine hz_eql (pc := 108) (cX i hi).2.2.1 ?_
      exact hz_lret (pc := 108) (hz_dec kX11_unspent 38 rfl) rfl (hcP.no hR _)
    · skip
      exact absurd hi (by omega)
set_option maxHeartbeats 4000000 in
set_option maxRecDepth 100000 in
theorem c_runspent2 {κ : hz_C} {z B : Nat} {M : hz_M} {H : ho_H} (hnn : (hoN H).length ≤ 6) (hT4 : (hoT H).length ≤ 4000) (hR : hmR M z B H) {v : Nat} (hv : v < (hoN H).length) {N : nd_N} (hN : ndL (hoN H) v = N) {i : Nat} (hup : N.2.1 = true) (hI : ksI N.1) (hi : i < (coAt (ksB N.1) (enB (ksB N.1)) (ksT N.1)).length) : hz_Mt κ xX12_unspent 4 0 0 [.ref B, .int (nI v), .int (nI i), .int (nI 2)] z M (hmP M z B (.long ((coL (coAt (ksB N.1) (enB (ksB N.1)) (ksT N.1)) i).2.2.1)) H) := by
  refine hz_ent (lo := [(0, .ref B), (1, .int (nI v)), (2, .int (nI i)), (3, .int (nI 2))]) (by decide) (Nat.le_of_ble_eq_true rfl) rfl ?_
  obtain ⟨hk0_, hE0, ⟨m1, m2, m3⟩, hNd, a5, a6, a7, a8⟩ := id hR
  obtain ⟨⟨fs, hO, hF⟩, -, -, h8, hz⟩ := id hk0_
  obtain ⟨x1, x3, x4, x5, x6, x7, x8⟩ := id m3
  have eSt : stI (ndL (hoN H) v).2.1 = nI 0 := by rw [hN, hup]; rfl
  refine hz_aloadn (pc := 0) 0 (hz_dec kX12_unspent 0 rfl) rfl ?_
  refine hz_iconst (pc := 1) (v := nI 0) (hz_dec kX12_unspent 1 rfl) (by decide) ?_
  refine hz_puti (pc := 2) (hz_dec kX12_unspent 2 rfl) fo_X12_302 ft_X12_0 hO h8 (by omega) (by rw [hF.1]; decide) ?_
  have hf1 : mfr B [0, 89] [] M (va_up M B (.inr (12, (List.set fs 0 (.int (nI 0)))))) := (mfr.rf ⟨fs, hO, hF⟩).upO (k := 0) hO hF rfl rfl
  have hR1 : hmR (va_up M B (.inr (12, (List.set fs 0 (.int (nI 0)))))) z B H := hR.m0 hf1 hE0.upO ((fdB_of (va_up_self _ _ _) 89).trans ((List.getElem?_set_ne (by decide)).trans ((fdB_of hO 89).symm.trans x8)))
  generalize (va_up M B (.inr (12, (List.set fs 0 (.int (nI 0)))))) = M1 at *
  obtain ⟨hk1, hE1, ⟨n1, d1, q1⟩, hNd1, a51, a61, a71, a81⟩ := id hR1
  obtain ⟨⟨fs1, hO1, hF1⟩, -, -, -, -⟩ := id hk1
  have h0 : mdN M1 B v N := by have q := hNd1 v hv; rw [hN] at q; exact q
  have hv6 : v < 6 := by omega
  have h01 : mnS M1 B v 1 N.1 (pvI (ksF N.1)) (ksP N.1) := by have q := h0.1; rw [hup] at q; exact q
  have h02 : orX (fA M1 B) v (mkO (ksL N.1)) := by have q := h0.2.1; rw [hup] at q; exact q
  obtain ⟨p1, p2, p3, p4, ⟨p5a, p5b, p5c⟩, p6, p7, p9⟩ := id h01
  have hbp := hI.1.p hI.2.1
  obtain ⟨b1, b2, b3, b4, b5, b6, b7, b8⟩ := id hbp
  refine hz_aloadn (pc := 5) 0 (hz_dec kX12_unspent 3 rfl) rfl ?_
  refine hz_iloadn (pc := 6) 1 (hz_dec kX12_unspent 4 rfl) rfl ?_
  refine hz_xV (pc := 7) (a := B) (As := [.int (nI v)]) (st := []) (hz_dec kX12_unspent 5 rfl) co_X12_692 im_X12_stateOf se_X12_stateOf rfl hO1 h8 (by omega) (c_st hnn hR1 hv) rfl (by decide) ⟨Nat.le_refl _, Nat.le_refl _⟩ (Nat.le_of_ble_eq_true rfl) rfl ?_
  refine hz_eqi (pc := 10) eSt ?_
  refine hz_z_ne (pc := 10) (tgt := 22) (hz_dec kX12_unspent 6 rfl) (by decide) (by omega) (fun hq1 => ?_) (fun hq1 => ?_)
  · skip
    exact absurd hq1 (by decide)
  · skip
    refine hz_iloadn (pc := 13) 3 (hz_dec kX12_unspent 7 rfl) rfl ?_
    refine hz_z_lt (pc := 14) (tgt := 22) (hz_dec kX12_unspent 8 rfl) (by decide) (by omega) ?_
    refine hz_iloadn (pc := 17) 3 (hz_dec kX12_unspent 9 rfl) rfl ?_
    refine hz_iconst (pc := 18) (v := nI 5) (hz_dec kX12_unspent 10 rfl) (by decide) ?_
    refine hz_n_le (pc := 19) (tgt := 24) (hz_dec kX12_unspent 11 rfl) (by decide) (by omega) (by omega) (fun hq3 => ?_) (fun hq3 => ?_)
    · skip
      refine hz_aloadn (pc := 24) 0 (hz_dec kX12_unspent 14 rfl) rfl ?_
      refine hz_iloadn (pc := 25) 1 (hz_dec kX12_unspent 15 rfl) rfl ?_
      refine hz_aloadn (pc := 26) 0 (hz_dec kX12_unspent 16 rfl) rfl ?_
      refine hz_get (pc := 27) (v := .ref (B + 21)) (hz_dec kX12_unspent 17 rfl) fo_X12_74 hO1 h8 (by omega) (hF1.2 23 (by decide) (by decide)) ?_
      refine hz_iloadn (pc := 30) 1 (hz_dec kX12_unspent 18 rfl) rfl ?_
      refine hz_iald (pc := 31) (j := v) (hz_dec kX12_unspent 19 rfl) hE1.a21 (by omega) (by omega) rfl (by omega) (by decide) ?_
      refine hz_eqi (pc := 32) p5b.2.1 ?_
      refine hz_callV (pc := 32) (a := B) (As := [.int (nI v), .int (nI (ksT N.1))]) (st := []) (hz_dec kX12_unspent 20 rfl) co_X12_553 im_X12_unspentBehind se_X12_unspentBehind rfl hO1 h8 (by omega) (c_unR hR1 hnn hv hN hI) rfl (by decide) ⟨Nat.le_refl _, Nat.le_refl _⟩ (Nat.le_of_ble_eq_true rfl) rfl (fun r9 z9 M2 hp9 => ?_)
      obtain ⟨rfl, rfl, hu2, hR2, hc2⟩ := hp9
      obtain ⟨hmO, h53, hcl, c1, c2, c3, c4, c5, c6, k1, k2, k3, k4, k5, k6, cX⟩ := id hc2
      obtain ⟨fs2, hO2, hF2⟩ := hmO
      have g53 : fs2[53]? = some (.int (nI (coAt (ksB N.1) (enB (ksB N.1)) (ksT N.1)).length)) := (fdB_of hO2 53).symm.trans h53
      refine hz_iloadn (pc := 35) 2 (hz_dec kX12_unspent 21 rfl) rfl ?_
      refine hz_z_lt (pc := 36) (tgt := 47) (hz_dec kX12_unspent 22 rfl) (by decide) (by omega) ?_
      refine hz_iloadn (pc := 39) 2 (hz_dec kX12_unspent 23 rfl) rfl ?_
      refine hz_aloadn (pc := 40) 0 (hz_dec kX12_unspent 24 rfl) rfl ?_
      refine hz_get (pc := 41) (v := .int (nI ((coAt (ksB N.1) (enB (ksB N.1)) (ksT N.1)).length))) (hz_dec kX12_unspent 25 rfl) fo_X12_479 hO2 h8 (by omega) g53 ?_
      refine hz_n_lt (pc := 44) (tgt := 49) (hz_dec kX12_unspent 26 rfl) (by decide) (by omega) (by omega) (fun h2 => ?_) (fun h2 => ?_)
      · skip
        refine hz_iloadn (pc := 49) 3 (hz_dec kX12_unspent 29 rfl) rfl ?_
        refine hz_swIn (pc := 50) (off := 49) (tgt := 99) (hz_dec kX12_unspent 30 rfl) (by decide) (by decide) rfl (by decide) ?_
        refine hz_aloadn (pc := 99) 0 (hz_dec kX12_unspent 42 rfl) rfl ?_
        refine hz_get (pc := 100) (v := .ref (B + 45)) (hz_dec kX12_unspent 43 rfl) fo_X12_146 hO2 h8 (by omega) (hF2.2 49 (by decide) (by decide)) ?_
        refine hz_iloadn (pc := 103) 2 (hz_dec kX12_unspent 44 rfl) rfl ?_
        refine hz_lald (pc := 104) (j := i) (hz_dec kX12_unspent 45 rfl) k3 (by omega) (by omega) rfl (by omega) (by decide) ?_
        refine hz_eql (pc := 105) (cX i hi).2.2.1 ?_
        exact hz_lret (pc := 105) (hz_dec kX12_unspent 46 rfl) rfl ⟨rfl, rfl, (hf1.S rfl).tr (hu2.S rfl), hR2⟩
      · skip
        exact absurd hi (by omega)
    · skip
      exact absurd hq3 (by decide)
set_option maxHeartbeats 4000000 in
set_option maxRecDepth 100000 in
theorem c_unspent3 {κ : hz_C} {z : Nat} {M : hz_M} {H : ho_H} (hz : 63 + 34 * (hoN H).length ≤ z) (hnn : (hoN H).length ≤ 6) (hT4 : (hoT H).length ≤ 4000) {ll : Nat} {fr kn : Int32} (hR : hcR M z H ll fr kn) {v : Nat} (hv : v < (hoN H).length) {N : nd_N} (hN : ndL (hoN H) v = N) {i : Nat} (hup : N.2.1 = true) (hI : ksI N.1) (hi : i < (coAt (ksB N.1) (enB (ksB N.1)) (ksT N.1)).length) : hz_Mt κ xX11_unspent 1 0 0 [.ref 8, .int (nI v), .int (nI i), .int (nI 3)] z M (hcP M z H (.long ((coL (coAt (ksB N.1) (enB (ksB N.1)) (ksT N.1)) i).2.2.2.1)) H) := by
  refine hz_ent (lo := [(0, .ref 8), (1, .int (nI v)), (2, .int (nI i)), (3, .int (nI 3))]) (by decide) (Nat.le_of_ble_eq_true rfl) rfl ?_
  have hH := hR.1
  have hNs := hR.2.1
  obtain ⟨hO, hQ, hD⟩ := id hR.2.2.2.2.1
  obtain ⟨g53, h53⟩ := hR.2.2.2.2.2.1
  have hJ := hR.2.2.2.1
  obtain ⟨g56, h56, hT56⟩ := hR.2.2.2.2.2.2.2.2.2.1
  have hdf := hR.2.2.2.2.2.2.2.2.2.2
  have hck : ck_k M z := hJ.2.2.2.2.2.2.2.1
  have hcs : ck_s M := hJ.2.2.2.2.2.2.2.2.1
  have hz63 : 63 ≤ z := by omega
  have hK := hR.2.2.1 v hv
  rw [hN] at hK
  obtain ⟨hn, ⟨gd, hgd, hgD⟩, hT, hC, hP, hL⟩ := id hK
  have hn : M (63 + 34 * v) = ndO (63 + 34 * v) (nI v) (nI 1) (nI (ksN N.1)) (pvI (ksF N.1)) N.2.2.1 N.2.2.2 := by rw [hup] at hn; exact hn
  obtain ⟨hcO, hcl, -, c1, c2, c3, c4, c5, c6, k1, k2, k3, k4, k5, k6, cX⟩ := id hC
  have hb5 := hI.2.1
  have hb113 := hI.1.top.2.1
  refine hz_aloadn (pc := 0) 0 (hz_dec kX11_unspent 0 rfl) rfl ?_
  refine hz_iloadn (pc := 1) 1 (hz_dec kX11_unspent 1 rfl) rfl ?_
  refine hz_xV (pc := 2) (a := 8) (As := [.int (nI v)]) (st := []) (hz_dec kX11_unspent 2 rfl) co_X11_162 im_X11_nodeOf se_X11_nodeOf rfl hH (by omega) (by omega) (c_nOf hz63 hH hnn hNs (b := v) hv) rfl (by decide) ⟨Nat.le_refl _, Nat.le_refl _⟩ (Nat.le_of_ble_eq_true rfl) rfl ?_
  refine hz_astore (pc := 5) (i := 4) (lo2 := [(4, .ref (63 + 34 * v)), (0, .ref 8), (1, .int (nI v)), (2, .int (nI i)), (3, .int (nI 3))]) (hz_dec kX11_unspent 3 rfl) (by decide) rfl ?_
  refine hz_aload (pc := 7) 0 (hz_dec kX11_unspent 4 rfl) rfl ?_
  refine hz_ifnull (pc := 9) (hz_dec kX11_unspent 5 rfl) ?_
  refine hz_aload (pc := 12) 0 (hz_dec kX11_unspent 6 rfl) rfl ?_
  refine hz_get (pc := 14) (hz_dec kX11_unspent 7 rfl) fo_X11_166 hn (by omega) (by omega) rfl ?_
  refine hz_z_eq (pc := 17) (tgt := 36) (hz_dec kX11_unspent 8 rfl) (by decide) (by omega) (fun hq1 => ?_) (fun hq1 => ?_)
  · skip
    exact absurd hq1 (by decide)
  · skip
    refine hz_iloadn (pc := 20) 3 (hz_dec kX11_unspent 9 rfl) rfl ?_
    refine hz_z_lt (pc := 21) (tgt := 36) (hz_dec kX11_unspent 10 rfl) (by decide) (by omega) ?_
    refine hz_iloadn (pc := 24) 3 (hz_dec kX11_unspent 11 rfl) rfl ?_
    refine hz_aload (pc := 25) 0 (hz_dec kX11_unspent 12 rfl) rfl ?_
    refine hz_get (pc := 27) (hz_dec kX11_unspent 13 rfl) fo_X11_170 hn (by omega) (by omega) rfl ?_
    refine hz_get (pc := 30) (hz_dec kX11_unspent 14 rfl) fo_X11_174 hcO (by omega) (by omega) rfl ?_
    refine hz_n_lt (pc := 33) (tgt := 38) (hz_dec kX11_unspent 15 rfl) (by decide) (by omega) (by omega) (fun h2 => ?_) (fun h2 => ?_)
    · skip
      refine hz_aload (pc := 38) 0 (hz_dec kX11_unspent 18 rfl) rfl ?_
      refine hz_get (pc := 40) (hz_dec kX11_unspent 19 rfl) fo_X11_170 hn (by omega) (by omega) rfl ?_
      refine hz_astore (pc := 43) (i := 5) (lo2 := [(5, .ref (63 + 34 * v + 2)), (4, .ref (63 + 34 * v)), (0, .ref 8), (1, .int (nI v)), (2, .int (nI i)), (3, .int (nI 3))]) (hz_dec kX11_unspent 20 rfl) (by decide) rfl ?_
      refine hz_iloadn (pc := 45) 5 (hz_dec kX11_unspent 21 rfl) rfl ?_
      refine hz_swIn (pc := 46) (off := 63) (tgt := 109) (hz_dec kX11_unspent 22 rfl) (by decide) (by decide) rfl (by decide) ?_
      refine hz_aload (pc := 109) 0 (hz_dec kX11_unspent 39 rfl) rfl ?_
      refine hz_get (pc := 111) (hz_dec kX11_unspent 40 rfl) fo_X11_413 hcO (by omega) (by omega) rfl ?_
      refine hz_iloadn (pc := 114) 4 (hz_dec kX11_unspent 41 rfl) rfl ?_
      refine hz_lald (pc := 115) (j := i) (hz_dec kX11_unspent 42 rfl) k4 (by omega) (by omega) rfl (by omega) (by decide) ?_
      refine hz_eql (pc := 116) (cX i hi).2.2.2.1 ?_
      exact hz_lret (pc := 116) (hz_dec kX11_unspent 43 rfl) rfl (hcP.no hR _)
    · skip
      exact absurd hi (by omega)
set_option maxHeartbeats 4000000 in
set_option maxRecDepth 100000 in
theorem c_runspent3 {κ : hz_C} {z B : Nat} {M : hz_M} {H : ho_H} (hnn : (hoN H).length ≤ 6) (hT4 : (hoT H).length ≤ 4000) (hR : hmR M z B H) {v : Nat} (hv : v < (hoN H).length) {N : nd_N} (hN : ndL (hoN H) v = N) {i : Nat} (hup : N.2.1 = true) (hI : ksI N.1) (hi : i < (coAt (ksB N.1) (enB (ksB N.1)) (ksT N.1)).length) : hz_Mt κ xX12_unspent 4 0 0 [.ref B, .int (nI v), .int (nI i), .int (nI 3)] z M (hmP M z B (.long ((coL (coAt (ksB N.1) (enB (ksB N.1)) (ksT N.1)) i).2.2.2.1)) H) := by
  refine hz_ent (lo := [(0, .ref B), (1, .int (nI v)), (2, .int (nI i)), (3, .int (nI 3))]) (by decide) (Nat.le_of_ble_eq_true rfl) rfl ?_
  obtain ⟨hk0_, hE0, ⟨m1, m2, m3⟩, hNd, a5, a6, a7, a8⟩ := id hR
  obtain ⟨⟨fs, hO, hF⟩, -, -, h8, hz⟩ := id hk0_
  obtain ⟨x1, x3, x4, x5, x6, x7, x8⟩ := id m3
  have eSt : stI (ndL (hoN H) v).2.1 = nI 0 := by rw [hN, hup]; rfl
  refine hz_aloadn (pc := 0) 0 (hz_dec kX12_unspent 0 rfl) rfl ?_
  refine hz_iconst (pc := 1) (v := nI 0) (hz_dec kX12_unspent 1 rfl) (by decide) ?_
  refine hz_puti (pc := 2) (hz_dec kX12_unspent 2 rfl) fo_X12_302 ft_X12_0 hO h8 (by omega) (by rw [hF.1]; decide) ?_
  have hf1 : mfr B [0, 89] [] M (va_up M B (.inr (12, (List.set fs 0 (.int (nI 0)))))) := (mfr.rf ⟨fs, hO, hF⟩).upO (k := 0) hO hF rfl rfl
  have hR1 : hmR (va_up M B (.inr (12, (List.set fs 0 (.int (nI 0)))))) z B H := hR.m0 hf1 hE0.upO ((fdB_of (va_up_self _ _ _) 89).trans ((List.getElem?_set_ne (by decide)).trans ((fdB_of hO 89).symm.trans x8)))
  generalize (va_up M B (.inr (12, (List.set fs 0 (.int (nI 0)))))) = M1 at *
  obtain ⟨hk1, hE1, ⟨n1, d1, q1⟩, hNd1, a51, a61, a71, a81⟩ := id hR1
  obtain ⟨⟨fs1, hO1, hF1⟩, -, -, -, -⟩ := id hk1
  have h0 : mdN M1 B v N := by have q := hNd1 v hv; rw [hN] at q; exact q
  have hv6 : v < 6 := by omega
  have h01 : mnS M1 B v 1 N.1 (pvI (ksF N.1)) (ksP N.1) := by have q := h0.1; rw [hup] at q; exact q
  have h02 : orX (fA M1 B) v (mkO (ksL N.1)) := by have q := h0.2.1; rw [hup] at q; exact q
  obtain ⟨p1, p2, p3, p4, ⟨p5a, p5b, p5c⟩, p6, p7, p9⟩ := id h01
  have hbp := hI.1.p hI.2.1
  obtain ⟨b1, b2, b3, b4, b5, b6, b7, b8⟩ := id hbp
  refine hz_aloadn (pc := 5) 0 (hz_dec kX12_unspent 3 rfl) rfl ?_
  refine hz_iloadn (pc := 6) 1 (hz_dec kX12_unspent 4 rfl) rfl ?_
  refine hz_xV (pc := 7) (a := B) (As := [.int (nI v)]) (st := []) (hz_dec kX12_unspent 5 rfl) co_X12_692 im_X12_stateOf se_X12_stateOf rfl hO1 h8 (by omega) (c_st hnn hR1 hv) rfl (by decide) ⟨Nat.le_refl _, Nat.le_refl _⟩ (Nat.le_of_ble_eq_true rfl) rfl ?_
  refine hz_eqi (pc := 10) eSt ?_
  refine hz_z_ne (pc := 10) (tgt := 22) (hz_dec kX12_unspent 6 rfl) (by decide) (by omega) (fun hq1 => ?_) (fun hq1 => ?_)
  · skip
    exact absurd hq1 (by decide)
  · skip
    refine hz_iloadn (pc := 13) 3 (hz_dec kX12_unspent 7 rfl) rfl ?_
    refine hz_z_lt (pc := 14) (tgt := 22) (hz_dec kX12_unspent 8 rfl) (by decide) (by omega) ?_
    refine hz_iloadn (pc := 17) 3 (hz_dec kX12_unspent 9 rfl) rfl ?_
    refine hz_iconst (pc := 18) (v := nI 5) (hz_dec kX12_unspent 10 rfl) (by decide) ?_
    refine hz_n_le (pc := 19) (tgt := 24) (hz_dec kX12_unspent 11 rfl) (by decide) (by omega) (by omega) (fun hq3 => ?_) (fun hq3 => ?_)
    · skip
      refine hz_aloadn (pc := 24) 0 (hz_dec kX12_unspent 14 rfl) rfl ?_
      refine hz_iloadn (pc := 25) 1 (hz_dec kX12_unspent 15 rfl) rfl ?_
      refine hz_aloadn (pc := 26) 0 (hz_dec kX12_unspent 16 rfl) rfl ?_
      refine hz_get (pc := 27) (v := .ref (B + 21)) (hz_dec kX12_unspent 17 rfl) fo_X12_74 hO1 h8 (by omega) (hF1.2 23 (by decide) (by decide)) ?_
      refine hz_iloadn (pc := 30) 1 (hz_dec kX12_unspent 18 rfl) rfl ?_
      refine hz_iald (pc := 31) (j := v) (hz_dec kX12_unspent 19 rfl) hE1.a21 (by omega) (by omega) rfl (by omega) (by decide) ?_
      refine hz_eqi (pc := 32) p5b.2.1 ?_
      refine hz_callV (pc := 32) (a := B) (As := [.int (nI v), .int (nI (ksT N.1))]) (st := []) (hz_dec kX12_unspent 20 rfl) co_X12_553 im_X12_unspentBehind se_X12_unspentBehind rfl hO1 h8 (by omega) (c_unR hR1 hnn hv hN hI) rfl (by decide) ⟨Nat.le_refl _, Nat.le_refl _⟩ (Nat.le_of_ble_eq_true rfl) rfl (fun r9 z9 M2 hp9 => ?_)
      obtain ⟨rfl, rfl, hu2, hR2, hc2⟩ := hp9
      obtain ⟨hmO, h53, hcl, c1, c2, c3, c4, c5, c6, k1, k2, k3, k4, k5, k6, cX⟩ := id hc2
      obtain ⟨fs2, hO2, hF2⟩ := hmO
      have g53 : fs2[53]? = some (.int (nI (coAt (ksB N.1) (enB (ksB N.1)) (ksT N.1)).length)) := (fdB_of hO2 53).symm.trans h53
      refine hz_iloadn (pc := 35) 2 (hz_dec kX12_unspent 21 rfl) rfl ?_
      refine hz_z_lt (pc := 36) (tgt := 47) (hz_dec kX12_unspent 22 rfl) (by decide) (by omega) ?_
      refine hz_iloadn (pc := 39) 2 (hz_dec kX12_unspent 23 rfl) rfl ?_
      refine hz_aloadn (pc := 40) 0 (hz_dec kX12_unspent 24 rfl) rfl ?_
      refine hz_get (pc := 41) (v := .int (nI ((coAt (ksB N.1) (enB (ksB N.1)) (ksT N.1)).length))) (hz_dec kX12_unspent 25 rfl) fo_X12_479 hO2 h8 (by omega) g53 ?_
      refine hz_n_lt (pc := 44) (tgt := 49) (hz_dec kX12_unspent 26 rfl) (by decide) (by omega) (by omega) (fun h2 => ?_) (fun h2 => ?_)
      · skip
        refine hz_iloadn (pc := 49) 3 (hz_dec kX12_unspent 29 rfl) rfl ?_
        refine hz_swIn (pc := 50) (off := 56) (tgt := 106) (hz_dec kX12_unspent 30 rfl) (by decide) (by decide) rfl (by decide) ?_
        refine hz_aloadn (pc := 106) 0 (hz_dec kX12_unspent 47 rfl) rfl ?_
        refine hz_get (pc := 107) (v := .ref (B + 46)) (hz_dec kX12_unspent 48 rfl) fo_X12_149 hO2 h8 (by omega) (hF2.2 50 (by decide) (by decide)) ?_
        refine hz_iloadn (pc := 110) 2 (hz_dec kX12_unspent 49 rfl) rfl ?_
        refine hz_lald (pc := 111) (j := i) (hz_dec kX12_unspent 50 rfl) k4 (by omega) (by omega) rfl (by omega) (by decide) ?_
        refine hz_eql (pc := 112) (cX i hi).2.2.2.1 ?_
        exact hz_lret (pc := 112) (hz_dec kX12_unspent 51 rfl) rfl ⟨rfl, rfl, (hf1.S rfl).tr (hu2.S rfl), hR2⟩
      · skip
        exact absurd hi (by omega)
    · skip
      exact absurd hq3 (by decide)
set_option maxHeartbeats 4000000 in
set_option maxRecDepth 100000 in
theorem c_unspent4 {κ : hz_C} {z : Nat} {M : hz_M} {H : ho_H} (hz : 63 + 34 * (hoN H).length ≤ z) (hnn : (hoN H).length ≤ 6) (hT4 : (hoT H).length ≤ 4000) {ll : Nat} {fr kn : Int32} (hR : hcR M z H ll fr kn) {v : Nat} (hv : v < (hoN H).length) {N : nd_N} (hN : ndL (hoN H) v = N) {i : Nat} (hup : N.2.1 = true) (hI : ksI N.1) (hi : i < (coAt (ksB N.1) (enB (ksB N.1)) (ksT N.1)).length) : hz_Mt κ xX11_unspent 1 0 0 [.ref 8, .int (nI v), .int (nI i), .int (nI 4)] z M (hcP M z H (.long ((nI (coL (coAt (ksB N.1) (enB (ksB N.1)) (ksT N.1)) i).2.2.2.2.1).toInt64)) H) := by
  refine hz_ent (lo := [(0, .ref 8), (1, .int (nI v)), (2, .int (nI i)), (3, .int (nI 4))]) (by decide) (Nat.le_of_ble_eq_true rfl) rfl ?_
  have hH := hR.1
  have hNs := hR.2.1
  obtain ⟨hO, hQ, hD⟩ := id hR.2.2.2.2.1
  obtain ⟨g53, h53⟩ := hR.2.2.2.2.2.1
  have hJ := hR.2.2.2.1
  obtain ⟨g56, h56, hT56⟩ := hR.2.2.2.2.2.2.2.2.2.1
  have hdf := hR.2.2.2.2.2.2.2.2.2.2
  have hck : ck_k M z := hJ.2.2.2.2.2.2.2.1
  have hcs : ck_s M := hJ.2.2.2.2.2.2.2.2.1
  have hz63 : 63 ≤ z := by omega
  have hK := hR.2.2.1 v hv
  rw [hN] at hK
  obtain ⟨hn, ⟨gd, hgd, hgD⟩, hT, hC, hP, hL⟩ := id hK
  have hn : M (63 + 34 * v) = ndO (63 + 34 * v) (nI v) (nI 1) (nI (ksN N.1)) (pvI (ksF N.1)) N.2.2.1 N.2.2.2 := by rw [hup] at hn; exact hn
  obtain ⟨hcO, hcl, -, c1, c2, c3, c4, c5, c6, k1, k2, k3, k4, k5, k6, cX⟩ := id hC
  have hb5 := hI.2.1
  have hb113 := hI.1.top.2.1
  refine hz_aloadn (pc := 0) 0 (hz_dec kX11_unspent 0 rfl) rfl ?_
  refine hz_iloadn (pc := 1) 1 (hz_dec kX11_unspent 1 rfl) rfl ?_
  refine hz_xV (pc := 2) (a := 8) (As := [.int (nI v)]) (st := []) (hz_dec kX11_unspent 2 rfl) co_X11_162 im_X11_nodeOf se_X11_nodeOf rfl hH (by omega) (by omega) (c_nOf hz63 hH hnn hNs (b := v) hv) rfl (by decide) ⟨Nat.le_refl _, Nat.le_refl _⟩ (Nat.le_of_ble_eq_true rfl) rfl ?_
  refine hz_astore (pc := 5) (i := 4) (lo2 := [(4, .ref (63 + 34 * v)), (0, .ref 8), (1, .int (nI v)), (2, .int (nI i)), (3, .int (nI 4))]) (hz_dec kX11_unspent 3 rfl) (by decide) rfl ?_
  refine hz_aload (pc := 7) 0 (hz_dec kX11_unspent 4 rfl) rfl ?_
  refine hz_ifnull (pc := 9) (hz_dec kX11_unspent 5 rfl) ?_
  refine hz_aload (pc := 12) 0 (hz_dec kX11_unspent 6 rfl) rfl ?_
  refine hz_get (pc := 14) (hz_dec kX11_unspent 7 rfl) fo_X11_166 hn (by omega) (by omega) rfl ?_
  refine hz_z_eq (pc := 17) (tgt := 36) (hz_dec kX11_unspent 8 rfl) (by decide) (by omega) (fun hq1 => ?_) (fun hq1 => ?_)
  · skip
    exact absurd hq1 (by decide)
  · skip
    refine hz_iloadn (pc := 20) 3 (hz_dec kX11_unspent 9 rfl) rfl ?_
    refine hz_z_lt (pc := 21) (tgt := 36) (hz_dec kX11_unspent 10 rfl) (by decide) (by omega) ?_
    refine hz_iloadn (pc := 24) 3 (hz_dec kX11_unspent 11 rfl) rfl ?_
    refine hz_aload (pc := 25) 0 (hz_dec kX11_unspent 12 rfl) rfl ?_
    refine hz_get (pc := 27) (hz_dec kX11_unspent 13 rfl) fo_X11_170 hn (by omega) (by omega) rfl ?_
    refine hz_get (pc := 30) (hz_dec kX11_unspent 14 rfl) fo_X11_174 hcO (by omega) (by omega) rfl ?_
    refine hz_n_lt (pc := 33) (tgt := 38) (hz_dec kX11_unspent 15 rfl) (by decide) (by omega) (by omega) (fun h2 => ?_) (fun h2 => ?_)
    · skip
      refine hz_aload (pc := 38) 0 (hz_dec kX11_unspent 18 rfl) rfl ?_
      refine hz_get (pc := 40) (hz_dec kX11_unspent 19 rfl) fo_X11_170 hn (by omega) (by omega) rfl ?_
      refine hz_astore (pc := 43) (i := 5) (lo2 := [(5, .ref (63 + 34 * v + 2)), (4, .ref (63 + 34 * v)), (0, .ref 8), (1, .int (nI v)), (2, .int (nI i)), (3, .int (nI 4))]) (hz_dec kX11_unspent 20 rfl) (by decide) rfl ?_
      refine hz_iloadn (pc := 45) 5 (hz_dec kX11_unspent 21 rfl) rfl ?_
      refine hz_swIn (pc := 46) (off := 71) (tgt := 117) (hz_dec kX11_unspent 22 rfl) (by decide) (by decide) rfl (by decide) ?_
      refine hz_aload (pc := 117) 0 (hz_dec kX11_unspent 44 rfl) rfl ?_
      refine hz_get (pc := 119) (hz_dec kX11_unspent 45 rfl) fo_X11_416 hcO (by omega) (by omega) rfl ?_
      refine hz_iloadn (pc := 122) 4 (hz_dec kX11_unspent 46 rfl) rfl ?_
      refine hz_iald (pc := 123) (j := i) (hz_dec kX11_unspent 47 rfl) k5 (by omega) (by omega) rfl (by omega) (by decide) ?_
      refine hz_eqi (pc := 124) (cX i hi).2.2.2.2.1 ?_
      refine hz_i2l (pc := 124) (hz_dec kX11_unspent 48 rfl) ?_
      exact hz_lret (pc := 125) (hz_dec kX11_unspent 49 rfl) rfl (hcP.no hR _)
    · skip
      exact absurd hi (by omega)
set_option maxHeartbeats 4000000 in
set_option maxRecDepth 100000 in
theorem c_runspent4 {κ : hz_C} {z B : Nat} {M : hz_M} {H : ho_H} (hnn : (hoN H).length ≤ 6) (hT4 : (hoT H).length ≤ 4000) (hR : hmR M z B H) {v : Nat} (hv : v < (hoN H).length) {N : nd_N} (hN : ndL (hoN H) v = N) {i : Nat} (hup : N.2.1 = true) (hI : ksI N.1) (hi : i < (coAt (ksB N.1) (enB (ksB N.1)) (ksT N.1)).length) : hz_Mt κ xX12_unspent 4 0 0 [.ref B, .int (nI v), .int (nI i), .int (nI 4)] z M (hmP M z B (.long ((nI (coL (coAt (ksB N.1) (enB (ksB N.1)) (ksT N.1)) i).2.2.2.2.1).toInt64)) H) := by
  refine hz_ent (lo := [(0, .ref B), (1, .int (nI v)), (2, .int (nI i)), (3, .int (nI 4))]) (by decide) (Nat.le_of_ble_eq_true rfl) rfl ?_
  obtain ⟨hk0_, hE0, ⟨m1, m2, m3⟩, hNd, a5, a6, a7, a8⟩ := id hR
  obtain ⟨⟨fs, hO, hF⟩, -, -, h8, hz⟩ := id hk0_
  obtain ⟨x1, x3, x4, x5, x6, x7, x8⟩ := id m3
  have eSt : stI (ndL (hoN H) v).2.1 = nI 0 := by rw [hN, hup]; rfl
  refine hz_aloadn (pc := 0) 0 (hz_dec kX12_unspent 0 rfl) rfl ?_
  refine hz_iconst (pc := 1) (v := nI 0) (hz_dec kX12_unspent 1 rfl) (by decide) ?_
  refine hz_puti (pc := 2) (hz_dec kX12_unspent 2 rfl) fo_X12_302 ft_X12_0 hO h8 (by omega) (by rw [hF.1]; decide) ?_
  have hf1 : mfr B [0, 89] [] M (va_up M B (.inr (12, (List.set fs 0 (.int (nI 0)))))) := (mfr.rf ⟨fs, hO, hF⟩).upO (k := 0) hO hF rfl rfl
  have hR1 : hmR (va_up M B (.inr (12, (List.set fs 0 (.int (nI 0)))))) z B H := hR.m0 hf1 hE0.upO ((fdB_of (va_up_self _ _ _) 89).trans ((List.getElem?_set_ne (by decide)).trans ((fdB_of hO 89).symm.trans x8)))
  generalize (va_up M B (.inr (12, (List.set fs 0 (.int (nI 0)))))) = M1 at *
  obtain ⟨hk1, hE1, ⟨n1, d1, q1⟩, hNd1, a51, a61, a71, a81⟩ := id hR1
  obtain ⟨⟨fs1, hO1, hF1⟩, -, -, -, -⟩ := id hk1
  have h0 : mdN M1 B v N := by have q := hNd1 v hv; rw [hN] at q; exact q
  have hv6 : v < 6 := by omega
  have h01 : mnS M1 B v 1 N.1 (pvI (ksF N.1)) (ksP N.1) := by have q := h0.1; rw [hup] at q; exact q
  have h02 : orX (fA M1 B) v (mkO (ksL N.1)) := by have q := h0.2.1; rw [hup] at q; exact q
  obtain ⟨p1, p2, p3, p4, ⟨p5a, p5b, p5c⟩, p6, p7, p9⟩ := id h01
  have hbp := hI.1.p hI.2.1
  obtain ⟨b1, b2, b3, b4, b5, b6, b7, b8⟩ := id hbp
  refine hz_aloadn (pc := 5) 0 (hz_dec kX12_unspent 3 rfl) rfl ?_
  refine hz_iloadn (pc := 6) 1 (hz_dec kX12_unspent 4 rfl) rfl ?_
  refine hz_xV (pc := 7) (a := B) (As := [.int (nI v)]) (st := []) (hz_dec kX12_unspent 5 rfl) co_X12_692 im_X12_stateOf se_X12_stateOf rfl hO1 h8 (by omega) (c_st hnn hR1 hv) rfl (by decide) ⟨Nat.le_refl _, Nat.le_refl _⟩ (Nat.le_of_ble_eq_true rfl) rfl ?_
  refine hz_eqi (pc := 10) eSt ?_
  refine hz_z_ne (pc := 10) (tgt := 22) (hz_dec kX12_unspent 6 rfl) (by decide) (by omega) (fun hq1 => ?_) (fun hq1 => ?_)
  · skip
    exact absurd hq1 (by decide)
  · skip
    refine hz_iloadn (pc := 13) 3 (hz_dec kX12_unspent 7 rfl) rfl ?_
    refine hz_z_lt (pc := 14) (tgt := 22) (hz_dec kX12_unspent 8 rfl) (by decide) (by omega) ?_
    refine hz_iloadn (pc := 17) 3 (hz_dec kX12_unspent 9 rfl) rfl ?_
    refine hz_iconst (pc := 18) (v := nI 5) (hz_dec kX12_unspent 10 rfl) (by decide) ?_
    refine hz_n_le (pc := 19) (tgt := 24) (hz_dec kX12_unspent 11 rfl) (by decide) (by omega) (by omega) (fun hq3 => ?_) (fun hq3 => ?_)
    · skip
      refine hz_aloadn (pc := 24) 0 (hz_dec kX12_unspent 14 rfl) rfl ?_
      refine hz_iloadn (pc := 25) 1 (hz_dec kX12_unspent 15 rfl) rfl ?_
      refine hz_aloadn (pc := 26) 0 (hz_dec kX12_unspent 16 rfl) rfl ?_
      refine hz_get (pc := 27) (v := .ref (B + 21)) (hz_dec kX12_unspent 17 rfl) fo_X12_74 hO1 h8 (by omega) (hF1.2 23 (by decide) (by decide)) ?_
      refine hz_iloadn (pc := 30) 1 (hz_dec kX12_unspent 18 rfl) rfl ?_
      refine hz_iald (pc := 31) (j := v) (hz_dec kX12_unspent 19 rfl) hE1.a21 (by omega) (by omega) rfl (by omega) (by decide) ?_
      refine hz_eqi (pc := 32) p5b.2.1 ?_
      refine hz_callV (pc := 32) (a := B) (As := [.int (nI v), .int (nI (ksT N.1))]) (st := []) (hz_dec kX12_unspent 20 rfl) co_X12_553 im_X12_unspentBehind se_X12_unspentBehind rfl hO1 h8 (by omega) (c_unR hR1 hnn hv hN hI) rfl (by decide) ⟨Nat.le_refl _, Nat.le_refl _⟩ (Nat.le_of_ble_eq_true rfl) rfl (fun r9 z9 M2 hp9 => ?_)
      obtain ⟨rfl, rfl, hu2, hR2, hc2⟩ := hp9
      obtain ⟨hmO, h53, hcl, c1, c2, c3, c4, c5, c6, k1, k2, k3, k4, k5, k6, cX⟩ := id hc2
      obtain ⟨fs2, hO2, hF2⟩ := hmO
      have g53 : fs2[53]? = some (.int (nI (coAt (ksB N.1) (enB (ksB N.1)) (ksT N.1)).length)) := (fdB_of hO2 53).symm.trans h53
      refine hz_iloadn (pc := 35) 2 (hz_dec kX12_unspent 21 rfl) rfl ?_
      refine hz_z_lt (pc := 36) (tgt := 47) (hz_dec kX12_unspent 22 rfl) (by decide) (by omega) ?_
      refine hz_iloadn (pc := 39) 2 (hz_dec kX12_unspent 23 rfl) rfl ?_
      refine hz_aloadn (pc := 40) 0 (hz_dec kX12_unspent 24 rfl) rfl ?_
      refine hz_get (pc := 41) (v := .int (nI ((coAt (ksB N.1) (enB (ksB N.1)) (ksT N.1)).length))) (hz_dec kX12_unspent 25 rfl) fo_X12_479 hO2 h8 (by omega) g53 ?_
      refine hz_n_lt (pc := 44) (tgt := 49) (hz_dec kX12_unspent 26 rfl) (by decide) (by omega) (by omega) (fun h2 => ?_) (fun h2 => ?_)
      · skip
        refine hz_iloadn (pc := 49) 3 (hz_dec kX12_unspent 29 rfl) rfl ?_
        refine hz_swIn (pc := 50) (off := 63) (tgt := 113) (hz_dec kX12_unspent 30 rfl) (by decide) (by decide) rfl (by decide) ?_
        refine hz_aloadn (pc := 113) 0 (hz_dec kX12_unspent 52 rfl) rfl ?_
        refine hz_get (pc := 114) (v := .ref (B + 47)) (hz_dec kX12_unspent 53 rfl) fo_X12_152 hO2 h8 (by omega) (hF2.2 51 (by decide) (by decide)) ?_
        refine hz_iloadn (pc := 117) 2 (hz_dec kX12_unspent 54 rfl) rfl ?_
        refine hz_iald (pc := 118) (j := i) (hz_dec kX12_unspent 55 rfl) k5 (by omega) (by omega) rfl (by omega) (by decide) ?_
        refine hz_eqi (pc := 119) (cX i hi).2.2.2.2.1 ?_
        refine hz_i2l (pc := 119) (hz_dec kX12_unspent 56 rfl) ?_
        exact hz_lret (pc := 120) (hz_dec kX12_unspent 57 rfl) rfl ⟨rfl, rfl, (hf1.S rfl).tr (hu2.S rfl), hR2⟩
      · skip
        exact absurd hi (by omega)
    · skip
      exact absurd hq3 (by decide)
set_option maxHeartbeats 4000000 in
set_option maxRecDepth 100000 in
theorem c_unspent5 {κ : hz_C} {z : Nat} {M : hz_M} {H : ho_H} (hz : 63 + 34 * (hoN H).length ≤ z) (hnn : (hoN H).length ≤ 6) (hT4 : (hoT H).length ≤ 4000) {ll : Nat} {fr kn : Int32} (hR : hcR M z H ll fr kn) {v : Nat} (hv : v < (hoN H).length) {N : nd_N} (hN : ndL (hoN H) v = N) {i : Nat} (hup : N.2.1 = true) (hI : ksI N.1) (hi : i < (coAt (ksB N.1) (enB (ksB N.1)) (ksT N.1)).length) : hz_Mt κ xX11_unspent 1 0 0 [.ref 8, .int (nI v), .int (nI i), .int (nI 5)] z M (hcP M z H (.long (if (coL (coAt (ksB N.1) (enB (ksB N.1)) (ksT N.1)) i).2.2.2.2.2 = true then 1 else 0)) H) := by
  refine hz_ent (lo := [(0, .ref 8), (1, .int (nI v)), (2, .int (nI i)), (3, .int (nI 5))]) (by decide) (Nat.le_of_ble_eq_true rfl) rfl ?_
  have hH := hR.1
  have hNs := hR.2.1
  obtain ⟨hO, hQ, hD⟩ := id hR.2.2.2.2.1
  obtain ⟨g53, h53⟩ := hR.2.2.2.2.2.1
  have hJ := hR.2.2.2.1
  obtain ⟨g56, h56, hT56⟩ := hR.2.2.2.2.2.2.2.2.2.1
  have hdf := hR.2.2.2.2.2.2.2.2.2.2
  have hck : ck_k M z := hJ.2.2.2.2.2.2.2.1
  have hcs : ck_s M := hJ.2.2.2.2.2.2.2.2.1
  have hz63 : 63 ≤ z := by omega
  have hK := hR.2.2.1 v hv
  rw [hN] at hK
  obtain ⟨hn, ⟨gd, hgd, hgD⟩, hT, hC, hP, hL⟩ := id hK
  have hn : M (63 + 34 * v) = ndO (63 + 34 * v) (nI v) (nI 1) (nI (ksN N.1)) (pvI (ksF N.1)) N.2.2.1 N.2.2.2 := by rw [hup] at hn; exact hn
  obtain ⟨hcO, hcl, -, c1, c2, c3, c4, c5, c6, k1, k2, k3, k4, k5, k6, cX⟩ := id hC
  have hb5 := hI.2.1
  have hb113 := hI.1.top.2.1
  refine hz_aloadn (pc := 0) 0 (hz_dec kX11_unspent 0 rfl) rfl ?_
  refine hz_iloadn (pc := 1) 1 (hz_dec kX11_unspent 1 rfl) rfl ?_
  refine hz_xV (pc := 2) (a := 8) (As := [.int (nI v)]) (st := []) (hz_dec kX11_unspent 2 rfl) co_X11_162 im_X11_nodeOf se_X11_nodeOf rfl hH (by omega) (by omega) (c_nOf hz63 hH hnn hNs (b := v) hv) rfl (by decide) ⟨Nat.le_refl _, Nat.le_refl _⟩ (Nat.le_of_ble_eq_true rfl) rfl ?_
  refine hz_astore (pc := 5) (i := 4) (lo2 := [(4, .ref (63 + 34 * v)), (0, .ref 8), (1, .int (nI v)), (2, .int (nI i)), (3, .int (nI 5))]) (hz_dec kX11_unspent 3 rfl) (by decide) rfl ?_
  refine hz_aload (pc := 7) 0 (hz_dec kX11_unspent 4 rfl) rfl ?_
  refine hz_ifnull (pc := 9) (hz_dec kX11_unspent 5 rfl) ?_
  refine hz_aload (pc := 12) 0 (hz_dec kX11_unspent 6 rfl) rfl ?_
  refine hz_get (pc := 14) (hz_dec kX11_unspent 7 rfl) fo_X11_166 hn (by omega) (by omega) rfl ?_
  refine hz_z_eq (pc := 17) (tgt := 36) (hz_dec kX11_unspent 8 rfl) (by decide) (by omega) (fun hq1 => ?_) (fun hq1 => ?_)
  · skip
    exact absurd hq1 (by decide)
  · skip
    refine hz_iloadn (pc := 20) 3 (hz_dec kX11_unspent 9 rfl) rfl ?_
    refine hz_z_lt (pc := 21) (tgt := 36) (hz_dec kX11_unspent 10 rfl) (by decide) (by omega) ?_
    refine hz_iloadn (pc := 24) 3 (hz_dec kX11_unspent 11 rfl) rfl ?_
    refine hz_aload (pc := 25) 0 (hz_dec kX11_unspent 12 rfl) rfl ?_
    refine hz_get (pc := 27) (hz_dec kX11_unspent 13 rfl) fo_X11_170 hn (by omega) (by omega) rfl ?_
    refine hz_get (pc := 30) (hz_dec kX11_unspent 14 rfl) fo_X11_174 hcO (by omega) (by omega) rfl ?_
    refine hz_n_lt (pc := 33) (tgt := 38) (hz_dec kX11_unspent 15 rfl) (by decide) (by omega) (by omega) (fun h2 => ?_) (fun h2 => ?_)
    · skip
      refine hz_aload (pc := 38) 0 (hz_dec kX11_unspent 18 rfl) rfl ?_
      refine hz_get (pc := 40) (hz_dec kX11_unspent 19 rfl) fo_X11_170 hn (by omega) (by omega) rfl ?_
      refine hz_astore (pc := 43) (i := 5) (lo2 := [(5, .ref (63 + 34 * v + 2)), (4, .ref (63 + 34 * v)), (0, .ref 8), (1, .int (nI v)), (2, .int (nI i)), (3, .int (nI 5))]) (hz_dec kX11_unspent 20 rfl) (by decide) rfl ?_
      refine hz_iloadn (pc := 45) 5 (hz_dec kX11_unspent 21 rfl) rfl ?_
      refine hz_swIn (pc := 46) (off := 80) (tgt := 126) (hz_dec kX11_unspent 22 rfl) (by decide) (by decide) rfl (by decide) ?_
      refine hz_aload (pc := 126) 0 (hz_dec kX11_unspent 50 rfl) rfl ?_
      refine hz_get (pc := 128) (hz_dec kX11_unspent 51 rfl) fo_X11_417 hcO (by omega) (by omega) rfl ?_
      refine hz_iloadn (pc := 131) 4 (hz_dec kX11_unspent 52 rfl) rfl ?_
      refine hz_zald (pc := 132) (j := i) (hz_dec kX11_unspent 53 rfl) k6 (by omega) (by omega) rfl (by omega) (by decide) ?_
      refine hz_eqi (pc := 133) (cX i hi).2.2.2.2.2 ?_
      refine hz_if_eq (pc := 133) (tgt := 140) (hz_dec kX11_unspent 54 rfl) (by decide) (fun h6 => ?_) (fun h6 => ?_)
      · skip
        have e6 := hz_b0 h6
        refine hz_lconst (pc := 140) (v := 0) (hz_dec kX11_unspent 57 rfl) (by decide) ?_
        exact hz_lret (pc := 141) (hz_dec kX11_unspent 58 rfl) rfl (by rw [e6]; exact hcP.no hR _)
      · skip
        have e6 := hz_b1 h6
        refine hz_lconst (pc := 136) (v := 1) (hz_dec kX11_unspent 55 rfl) (by decide) ?_
        refine hz_goto (pc := 137) (tgt := 141) (hz_dec kX11_unspent 56 rfl) (by decide) ?_
        exact hz_lret (pc := 141) (hz_dec kX11_unspent 58 rfl) rfl (by rw [e6]; exact hcP.no hR _)
    · skip
      exact absurd hi (by omega)
set_option maxHeartbeats 4000000 in
set_option maxRecDepth 100000 in
theorem c_runspent5 {κ : hz_C} {z B : Nat} {M : hz_M} {H : ho_H} (hnn : (hoN H).length ≤ 6) (hT4 : (hoT H).length ≤ 4000) (hR : hmR M z B H) {v : Nat} (hv : v < (hoN H).length) {N : nd_N} (hN : ndL (hoN H) v = N) {i : Nat} (hup : N.2.1 = true) (hI : ksI N.1) (hi : i < (coAt (ksB N.1) (enB (ksB N.1)) (ksT N.1)).length) : hz_Mt κ xX12_unspent 4 0 0 [.ref B, .int (nI v), .int (nI i), .int (nI 5)] z M (hmP M z B (.long (if (coL (coAt (ksB N.1) (enB (ksB N.1)) (ksT N.1)) i).2.2.2.2.2 = true then 1 else 0)) H) := by
  refine hz_ent (lo := [(0, .ref B), (1, .int (nI v)), (2, .int (nI i)), (3, .int (nI 5))]) (by decide) (Nat.le_of_ble_eq_true rfl) rfl ?_
  obtain ⟨hk0_, hE0, ⟨m1, m2, m3⟩, hNd, a5, a6, a7, a8⟩ := id hR
  obtain ⟨⟨fs, hO, hF⟩, -, -, h8, hz⟩ := id hk0_
  obtain ⟨x1, x3, x4, x5, x6, x7, x8⟩ := id m3
  have eSt : stI (ndL (hoN H) v).2.1 = nI 0 := by rw [hN, hup]; rfl
  refine hz_aloadn (pc := 0) 0 (hz_dec kX12_unspent 0 rfl) rfl ?_
  refine hz_iconst (pc := 1) (v := nI 0) (hz_dec kX12_unspent 1 rfl) (by decide) ?_
  refine hz_puti (pc := 2) (hz_dec kX12_unspent 2 rfl) fo_X12_302 ft_X12_0 hO h8 (by omega) (by rw [hF.1]; decide) ?_
  have hf1 : mfr B [0, 89] [] M (va_up M B (.inr (12, (List.set fs 0 (.int (nI 0)))))) := (mfr.rf ⟨fs, hO, hF⟩).upO (k := 0) hO hF rfl rfl
  have hR1 : hmR (va_up M B (.inr (12, (List.set fs 0 (.int (nI 0)))))) z B H := hR.m0 hf1 hE0.upO ((fdB_of (va_up_self _ _ _) 89).trans ((List.getElem?_set_ne (by decide)).trans ((fdB_of hO 89).symm.trans x8)))
  generalize (va_up M B (.inr (12, (List.set fs 0 (.int (nI 0)))))) = M1 at *
  obtain ⟨hk1, hE1, ⟨n1, d1, q1⟩, hNd1, a51, a61, a71, a81⟩ := id hR1
  obtain ⟨⟨fs1, hO1, hF1⟩, -, -, -, -⟩ := id hk1
  have h0 : mdN M1 B v N := by have q := hNd1 v hv; rw [hN] at q; exact q
  have hv6 : v < 6 := by omega
  have h01 : mnS M1 B v 1 N.1 (pvI (ksF N.1)) (ksP N.1) := by have q := h0.1; rw [hup] at q; exact q
  have h02 : orX (fA M1 B) v (mkO (ksL N.1)) := by have q := h0.2.1; rw [hup] at q; exact q
  obtain ⟨p1, p2, p3, p4, ⟨p5a, p5b, p5c⟩, p6, p7, p9⟩ := id h01
  have hbp := hI.1.p hI.2.1
  obtain ⟨b1, b2, b3, b4, b5, b6, b7, b8⟩ := id hbp
  refine hz_aloadn (pc := 5) 0 (hz_dec kX12_unspent 3 rfl) rfl ?_
  refine hz_iloadn (pc := 6) 1 (hz_dec kX12_unspent 4 rfl) rfl ?_
  refine hz_xV (pc := 7) (a := B) (As := [.int (nI v)]) (st := []) (hz_dec kX12_unspent 5 rfl) co_X12_692 im_X12_stateOf se_X12_stateOf rfl hO1 h8 (by omega) (c_st hnn hR1 hv) rfl (by decide) ⟨Nat.le_refl _, Nat.le_refl _⟩ (Nat.le_of_ble_eq_true rfl) rfl ?_
  refine hz_eqi (pc := 10) eSt ?_
  refine hz_z_ne (pc := 10) (tgt := 22) (hz_dec kX12_unspent 6 rfl) (by decide) (by omega) (fun hq1 => ?_) (fun hq1 => ?_)
  · skip
    exact absurd hq1 (by decide)
  · skip
    refine hz_iloadn (pc := 13) 3 (hz_dec kX12_unspent 7 rfl) rfl ?_
    refine hz_z_lt (pc := 14) (tgt := 22) (hz_dec kX12_unspent 8 rfl) (by decide) (by omega) ?_
    refine hz_iloadn (pc := 17) 3 (hz_dec kX12_unspent 9 rfl) rfl ?_
    refine hz_iconst (pc := 18) (v := nI 5) (hz_dec kX12_unspent 10 rfl) (by decide) ?_
    refine hz_n_le (pc := 19) (tgt := 24) (hz_dec kX12_unspent 11 rfl) (by decide) (by omega) (by omega) (fun hq3 => ?_) (fun hq3 => ?_)
    · skip
      refine hz_aloadn (pc := 24) 0 (hz_dec kX12_unspent 14 rfl) rfl ?_
      refine hz_iloadn (pc := 25) 1 (hz_dec kX12_unspent 15 rfl) rfl ?_
      refine hz_aloadn (pc := 26) 0 (hz_dec kX12_unspent 16 rfl) rfl ?_
      refine hz_get (pc := 27) (v := .ref (B + 21)) (hz_dec kX12_unspent 17 rfl) fo_X12_74 hO1 h8 (by omega) (hF1.2 23 (by decide) (by decide)) ?_
      refine hz_iloadn (pc := 30) 1 (hz_dec kX12_unspent 18 rfl) rfl ?_
      refine hz_iald (pc := 31) (j := v) (hz_dec kX12_unspent 19 rfl) hE1.a21 (by omega) (by omega) rfl (by omega) (by decide) ?_
      refine hz_eqi (pc := 32) p5b.2.1 ?_
      refine hz_callV (pc := 32) (a := B) (As := [.int (nI v), .int (nI (ksT N.1))]) (st := []) (hz_dec kX12_unspent 20 rfl) co_X12_553 im_X12_unspentBehind se_X12_unspentBehind rfl hO1 h8 (by omega) (c_unR hR1 hnn hv hN hI) rfl (by decide) ⟨Nat.le_refl _, Nat.le_refl _⟩ (Nat.le_of_ble_eq_true rfl) rfl (fun r9 z9 M2 hp9 => ?_)
      obtain ⟨rfl, rfl, hu2, hR2, hc2⟩ := hp9
      obtain ⟨hmO, h53, hcl, c1, c2, c3, c4, c5, c6, k1, k2, k3, k4, k5, k6, cX⟩ := id hc2
      obtain ⟨fs2, hO2, hF2⟩ := hmO
      have g53 : fs2[53]? = some (.int (nI (coAt (ksB N.1) (enB (ksB N.1)) (ksT N.1)).length)) := (fdB_of hO2 53).symm.trans h53
      refine hz_iloadn (pc := 35) 2 (hz_dec kX12_unspent 21 rfl) rfl ?_
      refine hz_z_lt (pc := 36) (tgt := 47) (hz_dec kX12_unspent 22 rfl) (by decide) (by omega) ?_
      refine hz_iloadn (pc := 39) 2 (hz_dec kX12_unspent 23 rfl) rfl ?_
      refine hz_aloadn (pc := 40) 0 (hz_dec kX12_unspent 24 rfl) rfl ?_
      refine hz_get (pc := 41) (v := .int (nI ((coAt (ksB N.1) (enB (ksB N.1)) (ksT N.1)).length))) (hz_dec kX12_unspent 25 rfl) fo_X12_479 hO2 h8 (by omega) g53 ?_
      refine hz_n_lt (pc := 44) (tgt := 49) (hz_dec kX12_unspent 26 rfl) (by decide) (by omega) (by omega) (fun h2 => ?_) (fun h2 => ?_)
      · skip
        refine hz_iloadn (pc := 49) 3 (hz_dec kX12_unspent 29 rfl) rfl ?_
        refine hz_swOut (pc := 50) (tgt := 121) (hz_dec kX12_unspent 30 rfl) (Or.inr (by decide)) (by decide) ?_
        refine hz_aloadn (pc := 121) 0 (hz_dec kX12_unspent 58 rfl) rfl ?_
        refine hz_get (pc := 122) (v := .ref (B + 48)) (hz_dec kX12_unspent 59 rfl) fo_X12_155 hO2 h8 (by omega) (hF2.2 52 (by decide) (by decide)) ?_
        refine hz_iloadn (pc := 125) 2 (hz_dec kX12_unspent 60 rfl) rfl ?_
        refine hz_zald (pc := 126) (j := i) (hz_dec kX12_unspent 61 rfl) k6 (by omega) (by omega) rfl (by omega) (by decide) ?_
        refine hz_eqi (pc := 127) (cX i hi).2.2.2.2.2 ?_
        refine hz_if_eq (pc := 127) (tgt := 134) (hz_dec kX12_unspent 62 rfl) (by decide) (fun h6 => ?_) (fun h6 => ?_)
        · skip
          have e6 := hz_b0 h6
          refine hz_lconst (pc := 134) (v := 0) (hz_dec kX12_unspent 65 rfl) (by decide) ?_
          exact hz_lret (pc := 135) (hz_dec kX12_unspent 66 rfl) rfl ⟨by rw [e6]; rfl, rfl, (hf1.S rfl).tr (hu2.S rfl), hR2⟩
        · skip
          have e6 := hz_b1 h6
          refine hz_lconst (pc := 130) (v := 1) (hz_dec kX12_unspent 63 rfl) (by decide) ?_
          refine hz_goto (pc := 131) (tgt := 135) (hz_dec kX12_unspent 64 rfl) (by decide) ?_
          exact hz_lret (pc := 135) (hz_dec kX12_unspent 66 rfl) rfl ⟨by rw [e6]; rfl, rfl, (hf1.S rfl).tr (hu2.S rfl), hR2⟩
      · skip
        exact absurd hi (by omega)
    · skip
      exact absurd hq3 (by decide)
