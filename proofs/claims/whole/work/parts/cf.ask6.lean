/-! balance, take, limb -/
set_option maxHeartbeats 4000000 in
set_option maxRecDepth 100000 in
theorem c_balanceN {κ : hz_C} {z : Nat} {M : hz_M} {H : ho_H} (hz : 63 + 34 * (hoN H).length ≤ z) (hnn : (hoN H).length ≤ 6) (hT4 : (hoT H).length ≤ 4000) {ll : Nat} {fr kn : Int32} (hR : hcR M z H ll fr kn) {v : Int32} {sd : Int64} (hv : v < 0 ∨ ¬ v < nI (hoN H).length) : hz_Mt κ xX11_balance 3 0 0 [.ref 8, .int v, .long sd] z M (hcP M z H (.long 0) H) := by
  refine hz_ent (lo := [(0, .ref 8), (1, .int v), (2, .long sd)]) (by decide) (Nat.le_of_ble_eq_true rfl) rfl ?_
  have hH := hR.1
  have hNs := hR.2.1
  obtain ⟨hO, hQ, hD⟩ := id hR.2.2.2.2.1
  obtain ⟨g53, h53⟩ := hR.2.2.2.2.2.1
  have hJ := hR.2.2.2.1
  obtain ⟨g56, h56, hT56⟩ := hR.2.2.2.2.2.2.2.2.2.1
  have hdf := hR.2.2.2.2.2.2.2.2.2.2
  have hck : ck_k M z := hJ.2.2.2.2.2.2.2.1
  have hcs : ck_s M := hJ.2.2.2.2.2.2.2.2.1
  have hz63 : 63 ≤ z := by omega
  refine hz_aloadn (pc := 0) 0 (hz_dec kX11_balance 0 rfl) rfl ?_
  refine hz_iloadn (pc := 1) 1 (hz_dec kX11_balance 1 rfl) rfl ?_
  refine hz_xV (pc := 2) (a := 8) (As := [.int v]) (st := []) (hz_dec kX11_balance 2 rfl) co_X11_162 im_X11_nodeOf se_X11_nodeOf rfl hH (by omega) (by omega) (c_nOfN hz63 hH hnn hNs hv) rfl (by decide) ⟨Nat.le_refl _, Nat.le_refl _⟩ (Nat.le_of_ble_eq_true rfl) rfl ?_
  refine hz_astoreN (pc := 5) (i := 4) (lo2 := [(4, .null), (0, .ref 8), (1, .int v), (2, .long sd)]) (hz_dec kX11_balance 3 rfl) (by decide) rfl ?_
  refine hz_aloadN (pc := 7) 0 (hz_dec kX11_balance 4 rfl) rfl ?_
  refine hz_ifnullN (pc := 9) (tgt := 20) (hz_dec kX11_balance 5 rfl) (by decide) ?_
  refine hz_lconst (pc := 20) (v := 0) (hz_dec kX11_balance 9 rfl) (by decide) ?_
  exact hz_lret (pc := 21) (hz_dec kX11_balance 10 rfl) rfl (hcP.no hR _)
set_option maxHeartbeats 4000000 in
set_option maxRecDepth 100000 in
theorem c_rbalanceN {κ : hz_C} {z B : Nat} {M : hz_M} {H : ho_H} (hnn : (hoN H).length ≤ 6) (hT4 : (hoT H).length ≤ 4000) (hR : hmR M z B H) {v : Int32} {sd : Int64} (hv : v < 0 ∨ ¬ v < nI (hoN H).length) : hz_Mt κ xX12_balance 7 0 0 [.ref B, .int v, .long sd] z M (hmP M z B (.long 0) H) := by
  refine hz_ent (lo := [(0, .ref B), (1, .int v), (2, .long sd)]) (by decide) (Nat.le_of_ble_eq_true rfl) rfl ?_
  obtain ⟨hk0_, hE0, ⟨m1, m2, m3⟩, hNd, a5, a6, a7, a8⟩ := id hR
  obtain ⟨⟨fs, hO, hF⟩, -, -, h8, hz⟩ := id hk0_
  obtain ⟨x1, x3, x4, x5, x6, x7, x8⟩ := id m3
  refine hz_aloadn (pc := 0) 0 (hz_dec kX12_balance 0 rfl) rfl ?_
  refine hz_iconst (pc := 1) (v := nI 0) (hz_dec kX12_balance 1 rfl) (by decide) ?_
  refine hz_puti (pc := 2) (hz_dec kX12_balance 2 rfl) fo_X12_302 ft_X12_0 hO h8 (by omega) (by rw [hF.1]; decide) ?_
  have hf1 : mfr B [0, 89] [] M (va_up M B (.inr (12, (List.set fs 0 (.int (nI 0)))))) := (mfr.rf ⟨fs, hO, hF⟩).upO (k := 0) hO hF rfl rfl
  have hR1 : hmR (va_up M B (.inr (12, (List.set fs 0 (.int (nI 0)))))) z B H := hR.m0 hf1 hE0.upO ((fdB_of (va_up_self _ _ _) 89).trans ((List.getElem?_set_ne (by decide)).trans ((fdB_of hO 89).symm.trans x8)))
  generalize (va_up M B (.inr (12, (List.set fs 0 (.int (nI 0)))))) = M1 at *
  obtain ⟨hk1, hE1, ⟨n1, d1, q1⟩, hNd1, a51, a61, a71, a81⟩ := id hR1
  obtain ⟨⟨fs1, hO1, hF1⟩, -, -, -, -⟩ := id hk1
  refine hz_aloadn (pc := 5) 0 (hz_dec kX12_balance 3 rfl) rfl ?_
  refine hz_iloadn (pc := 6) 1 (hz_dec kX12_balance 4 rfl) rfl ?_
  refine hz_xV (pc := 7) (a := B) (As := [.int v]) (st := []) (hz_dec kX12_balance 5 rfl) co_X12_692 im_X12_stateOf se_X12_stateOf rfl hO1 h8 (by omega) (c_stN hnn hR1 hv) rfl (by decide) ⟨Nat.le_refl _, Nat.le_refl _⟩ (Nat.le_of_ble_eq_true rfl) rfl ?_
  refine hz_if_eq (pc := 10) (tgt := 15) (hz_dec kX12_balance 6 rfl) (by decide) (fun hq1 => ?_) (fun hq1 => ?_)
  · skip
    exact absurd hq1 (by decide)
  · skip
    refine hz_lconst (pc := 13) (v := 0) (hz_dec kX12_balance 7 rfl) (by decide) ?_
    exact hz_lret (pc := 14) (hz_dec kX12_balance 8 rfl) rfl ⟨rfl, rfl, hf1.S rfl, hR1⟩
set_option maxHeartbeats 4000000 in
set_option maxRecDepth 100000 in
theorem c_balanceD {κ : hz_C} {z : Nat} {M : hz_M} {H : ho_H} (hz : 63 + 34 * (hoN H).length ≤ z) (hnn : (hoN H).length ≤ 6) (hT4 : (hoT H).length ≤ 4000) {ll : Nat} {fr kn : Int32} (hR : hcR M z H ll fr kn) {v : Nat} (hv : v < (hoN H).length) {N : nd_N} (hN : ndL (hoN H) v = N) {sd : Int64} (hup : N.2.1 = false) : hz_Mt κ xX11_balance 3 0 0 [.ref 8, .int (nI v), .long sd] z M (hcP M z H (.long 0) H) := by
  refine hz_ent (lo := [(0, .ref 8), (1, .int (nI v)), (2, .long sd)]) (by decide) (Nat.le_of_ble_eq_true rfl) rfl ?_
  have hH := hR.1
  have hNs := hR.2.1
  obtain ⟨hO, hQ, hD⟩ := id hR.2.2.2.2.1
  obtain ⟨g53, h53⟩ := hR.2.2.2.2.2.1
  have hJ := hR.2.2.2.1
  obtain ⟨g56, h56, hT56⟩ := hR.2.2.2.2.2.2.2.2.2.1
  have hdf := hR.2.2.2.2.2.2.2.2.2.2
  have hck : ck_k M z := hJ.2.2.2.2.2.2.2.1
  have hcs : ck_s M := hJ.2.2.2.2.2.2.2.2.1
  have hz63 : 63 ≤ z := by omega
  have hK := hR.2.2.1 v hv
  rw [hN] at hK
  obtain ⟨hn, ⟨gd, hgd, hgD⟩, hT, hC, hP, hL⟩ := id hK
  have hn : M (63 + 34 * v) = ndO (63 + 34 * v) (nI v) (nI 0) (nI (ksN N.1)) (pvI (ksF N.1)) N.2.2.1 N.2.2.2 := by rw [hup] at hn; exact hn
  refine hz_aloadn (pc := 0) 0 (hz_dec kX11_balance 0 rfl) rfl ?_
  refine hz_iloadn (pc := 1) 1 (hz_dec kX11_balance 1 rfl) rfl ?_
  refine hz_xV (pc := 2) (a := 8) (As := [.int (nI v)]) (st := []) (hz_dec kX11_balance 2 rfl) co_X11_162 im_X11_nodeOf se_X11_nodeOf rfl hH (by omega) (by omega) (c_nOf hz63 hH hnn hNs (b := v) hv) rfl (by decide) ⟨Nat.le_refl _, Nat.le_refl _⟩ (Nat.le_of_ble_eq_true rfl) rfl ?_
  refine hz_astore (pc := 5) (i := 4) (lo2 := [(4, .ref (63 + 34 * v)), (0, .ref 8), (1, .int (nI v)), (2, .long sd)]) (hz_dec kX11_balance 3 rfl) (by decide) rfl ?_
  refine hz_aload (pc := 7) 0 (hz_dec kX11_balance 4 rfl) rfl ?_
  refine hz_ifnull (pc := 9) (hz_dec kX11_balance 5 rfl) ?_
  refine hz_aload (pc := 12) 0 (hz_dec kX11_balance 6 rfl) rfl ?_
  refine hz_get (pc := 14) (hz_dec kX11_balance 7 rfl) fo_X11_166 hn (by omega) (by omega) rfl ?_
  refine hz_z_ne (pc := 17) (tgt := 22) (hz_dec kX11_balance 8 rfl) (by decide) (by omega) (fun hq1 => ?_) (fun hq1 => ?_)
  · skip
    exact absurd hq1 (by decide)
  · skip
    refine hz_lconst (pc := 20) (v := 0) (hz_dec kX11_balance 9 rfl) (by decide) ?_
    exact hz_lret (pc := 21) (hz_dec kX11_balance 10 rfl) rfl (hcP.no hR _)
set_option maxHeartbeats 4000000 in
set_option maxRecDepth 100000 in
theorem c_rbalanceD {κ : hz_C} {z B : Nat} {M : hz_M} {H : ho_H} (hnn : (hoN H).length ≤ 6) (hT4 : (hoT H).length ≤ 4000) (hR : hmR M z B H) {v : Nat} (hv : v < (hoN H).length) {N : nd_N} (hN : ndL (hoN H) v = N) {sd : Int64} (hup : N.2.1 = false) : hz_Mt κ xX12_balance 7 0 0 [.ref B, .int (nI v), .long sd] z M (hmP M z B (.long 0) H) := by
  refine hz_ent (lo := [(0, .ref B), (1, .int (nI v)), (2, .long sd)]) (by decide) (Nat.le_of_ble_eq_true rfl) rfl ?_
  obtain ⟨hk0_, hE0, ⟨m1, m2, m3⟩, hNd, a5, a6, a7, a8⟩ := id hR
  obtain ⟨⟨fs, hO, hF⟩, -, -, h8, hz⟩ := id hk0_
  obtain ⟨x1, x3, x4, x5, x6, x7, x8⟩ := id m3
  have eSt : stI (ndL (hoN H) v).2.1 = (-2) := by rw [hN, hup]; rfl
  refine hz_aloadn (pc := 0) 0 (hz_dec kX12_balance 0 rfl) rfl ?_
  refine hz_iconst (pc := 1) (v := nI 0) (hz_dec kX12_balance 1 rfl) (by decide) ?_
  refine hz_puti (pc := 2) (hz_dec kX12_balance 2 rfl) fo_X12_302 ft_X12_0 hO h8 (by omega) (by rw [hF.1]; decide) ?_
  have hf1 : mfr B [0, 89] [] M (va_up M B (.inr (12, (List.set fs 0 (.int (nI 0)))))) := (mfr.rf ⟨fs, hO, hF⟩).upO (k := 0) hO hF rfl rfl
  have hR1 : hmR (va_up M B (.inr (12, (List.set fs 0 (.int (nI 0)))))) z B H := hR.m0 hf1 hE0.upO ((fdB_of (va_up_self _ _ _) 89).trans ((List.getElem?_set_ne (by decide)).trans ((fdB_of hO 89).symm.trans x8)))
  generalize (va_up M B (.inr (12, (List.set fs 0 (.int (nI 0)))))) = M1 at *
  obtain ⟨hk1, hE1, ⟨n1, d1, q1⟩, hNd1, a51, a61, a71, a81⟩ := id hR1
  obtain ⟨⟨fs1, hO1, hF1⟩, -, -, -, -⟩ := id hk1
  refine hz_aloadn (pc := 5) 0 (hz_dec kX12_balance 3 rfl) rfl ?_
  refine hz_iloadn (pc := 6) 1 (hz_dec kX12_balance 4 rfl) rfl ?_
  refine hz_xV (pc := 7) (a := B) (As := [.int (nI v)]) (st := []) (hz_dec kX12_balance 5 rfl) co_X12_692 im_X12_stateOf se_X12_stateOf rfl hO1 h8 (by omega) (c_st hnn hR1 hv) rfl (by decide) ⟨Nat.le_refl _, Nat.le_refl _⟩ (Nat.le_of_ble_eq_true rfl) rfl ?_
  refine hz_eqi (pc := 10) eSt ?_
  refine hz_if_eq (pc := 10) (tgt := 15) (hz_dec kX12_balance 6 rfl) (by decide) (fun hq1 => ?_) (fun hq1 => ?_)
  · skip
    exact absurd hq1 (by decide)
  · skip
    refine hz_lconst (pc := 13) (v := 0) (hz_dec kX12_balance 7 rfl) (by decide) ?_
    exact hz_lret (pc := 14) (hz_dec kX12_balance 8 rfl) rfl ⟨rfl, rfl, hf1.S rfl, hR1⟩
set_option maxHeartbeats 4000000 in
set_option maxRecDepth 100000 in
theorem c_balance {κ : hz_C} {z : Nat} {M : hz_M} {H : ho_H} (hz : 63 + 34 * (hoN H).length ≤ z) (hnn : (hoN H).length ≤ 6) (hT4 : (hoT H).length ≤ 4000) {ll : Nat} {fr kn : Int32} (hR : hcR M z H ll fr kn) {v : Nat} (hv : v < (hoN H).length) {N : nd_N} (hN : ndL (hoN H) v = N) {sd : Int64} (hup : N.2.1 = true) (hI : ksI N.1) : hz_Mt κ xX11_balance 3 0 0 [.ref 8, .int (nI v), .long sd] z M (hcP M z H (.long (blS (coAt (ksB N.1) (enB (ksB N.1)) (ksT N.1)) (ky_a sd) (coAt (ksB N.1) (enB (ksB N.1)) (ksT N.1)).length)) H) := by
  refine hz_ent (lo := [(0, .ref 8), (1, .int (nI v)), (2, .long sd)]) (by decide) (Nat.le_of_ble_eq_true rfl) rfl ?_
  have hH := hR.1
  have hNs := hR.2.1
  obtain ⟨hO, hQ, hD⟩ := id hR.2.2.2.2.1
  obtain ⟨g53, h53⟩ := hR.2.2.2.2.2.1
  have hJ := hR.2.2.2.1
  obtain ⟨g56, h56, hT56⟩ := hR.2.2.2.2.2.2.2.2.2.1
  have hdf := hR.2.2.2.2.2.2.2.2.2.2
  have hck : ck_k M z := hJ.2.2.2.2.2.2.2.1
  have hcs : ck_s M := hJ.2.2.2.2.2.2.2.2.1
  have hz63 : 63 ≤ z := by omega
  have hK := hR.2.2.1 v hv
  rw [hN] at hK
  obtain ⟨hn, ⟨gd, hgd, hgD⟩, hT, hC, hP, hL⟩ := id hK
  have hn : M (63 + 34 * v) = ndO (63 + 34 * v) (nI v) (nI 1) (nI (ksN N.1)) (pvI (ksF N.1)) N.2.2.1 N.2.2.2 := by rw [hup] at hn; exact hn
  refine hz_aloadn (pc := 0) 0 (hz_dec kX11_balance 0 rfl) rfl ?_
  refine hz_iloadn (pc := 1) 1 (hz_dec kX11_balance 1 rfl) rfl ?_
  refine hz_xV (pc := 2) (a := 8) (As := [.int (nI v)]) (st := []) (hz_dec kX11_balance 2 rfl) co_X11_162 im_X11_nodeOf se_X11_nodeOf rfl hH (by omega) (by omega) (c_nOf hz63 hH hnn hNs (b := v) hv) rfl (by decide) ⟨Nat.le_refl _, Nat.le_refl _⟩ (Nat.le_of_ble_eq_true rfl) rfl ?_
  refine hz_astore (pc := 5) (i := 4) (lo2 := [(4, .ref (63 + 34 * v)), (0, .ref 8), (1, .int (nI v)), (2, .long sd)]) (hz_dec kX11_balance 3 rfl) (by decide) rfl ?_
  refine hz_aload (pc := 7) 0 (hz_dec kX11_balance 4 rfl) rfl ?_
  refine hz_ifnull (pc := 9) (hz_dec kX11_balance 5 rfl) ?_
  refine hz_aload (pc := 12) 0 (hz_dec kX11_balance 6 rfl) rfl ?_
  refine hz_get (pc := 14) (hz_dec kX11_balance 7 rfl) fo_X11_166 hn (by omega) (by omega) rfl ?_
  refine hz_z_ne (pc := 17) (tgt := 22) (hz_dec kX11_balance 8 rfl) (by decide) (by omega) (fun hq1 => ?_) (fun hq1 => ?_)
  · skip
    refine hz_aloadn (pc := 22) 1 (hz_dec kX11_balance 11 rfl) rfl ?_
    refine hz_get (pc := 23) (hz_dec kX11_balance 12 rfl) fo_X11_30 hH (by omega) (by omega) rfl ?_
    refine hz_lloadn (pc := 26) 3 (hz_dec kX11_balance 13 rfl) rfl ?_
    refine hz_callV (pc := 27) (a := 13) (As := [.long sd]) (st := []) (hz_dec kX11_balance 14 rfl) co_X11_148 im_X4_addressOf se_X4_addressOf rfl hck.2.1 (by omega) (by omega) (c_cadO hck hcs (sd := sd)) rfl (by decide) ⟨Nat.le_refl _, Nat.le_refl _⟩ (Nat.le_of_ble_eq_true rfl) rfl (fun r9 z9 M2 hp9 => ?_)
    obtain ⟨rfl, rfl, hf2, hs2, -⟩ := hp9
    have hfS2 : frS [(9, 39)] M M2 := hf2.S0 rfl
    have hJ2 : juS M2 z := hJ.k hf2 rfl rfl rfl hs2
    have hR2 : hcR M2 z H ll fr kn := hR.j hfS2 hJ2
    have hn2 := (hfS2.at1 (q := 63 + 34 * v) (by omega)).trans hn
    have hC2 : coR M2 (63 + 34 * v + 2) (coAt (ksB N.1) (enB (ksB N.1)) (ksT N.1)) := hC.fr (fun q q1 q2 => hfS2.at1 (by omega))
    refine hz_lstore (pc := 30) (i := 5) (lo2 := [(5, .long (ky_a sd)), (4, .ref (63 + 34 * v)), (0, .ref 8), (1, .int (nI v)), (2, .long sd)]) (hz_dec kX11_balance 15 rfl) (by decide) rfl ?_
    refine hz_lconst (pc := 32) (v := 0) (hz_dec kX11_balance 16 rfl) (by decide) ?_
    refine hz_lstore (pc := 33) (i := 7) (lo2 := [(7, .long 0), (5, .long (ky_a sd)), (4, .ref (63 + 34 * v)), (0, .ref 8), (1, .int (nI v)), (2, .long sd)]) (hz_dec kX11_balance 17 rfl) (by decide) rfl ?_
    refine hz_iconst (pc := 35) (v := nI 0) (hz_dec kX11_balance 18 rfl) (by decide) ?_
    refine hz_istore (pc := 36) (i := 9) (lo2 := [(9, .int (nI 0)), (7, .long 0), (5, .long (ky_a sd)), (4, .ref (63 + 34 * v)), (0, .ref 8), (1, .int (nI v)), (2, .long sd)]) (hz_dec kX11_balance 19 rfl) (by decide) rfl ?_
    refine hz_pick (pc := 38) [0, 1, 3, 2] rfl ?_
    exact c_bal_l (by omega) hn2 hC2 ⟨rfl, rfl, (hfS2.mono (fun q (h9 : outS [(8, 63 + 34 * (hoN H).length)] q) => ⟨by have r := h9.1; omega, trivial⟩)), ll, fr, kn, hR2⟩ (coAt (ksB N.1) (enB (ksB N.1)) (ksT N.1)).length 0 rfl (by omega)
  · skip
    exact absurd hq1 (by decide)
set_option maxHeartbeats 4000000 in
set_option maxRecDepth 100000 in
theorem c_rbal_l {κ : hz_C} {z B : Nat} {M : hz_M} (h8 : 8 ≤ B) (hz : B + 88 ≤ z) {cs : List co_C} (hc : mcR M B cs) {ad : Int64} {P : hz_P} (hP : P (some (.long (blS cs ad cs.length))) z M) : ∀ k i, k = cs.length - i → i ≤ cs.length → hz_W κ xX12_balance 7 0 0 P 0 0 39 [(8, .int (nI i)), (6, .long (blS cs ad i)), (0, .ref B), (4, .long ad)] [] z M := by
  intro k
  induction k using Nat.strongRecOn with
  | ind k ih =>
  intro i hk hi
  obtain ⟨hmO, h53, hcl, c1, c2, c3, c4, c5, c6, k1, k2, k3, k4, k5, k6, cX⟩ := id hc
  obtain ⟨fs, hO, hF⟩ := hmO
  have g53 : fs[53]? = some (.int (nI cs.length)) := (fdB_of hO 53).symm.trans h53
  refine hz_iload (pc := 39) 0 (hz_dec kX12_balance 24 rfl) rfl ?_
  refine hz_aloadn (pc := 41) 2 (hz_dec kX12_balance 25 rfl) rfl ?_
  refine hz_get (pc := 42) (v := .int (nI (cs.length))) (hz_dec kX12_balance 26 rfl) fo_X12_479 hO h8 (by omega) g53 ?_
  refine hz_n_ge (pc := 45) (tgt := 83) (hz_dec kX12_balance 27 rfl) (by decide) (by omega) (by omega) (fun h1 => ?_) (fun h1 => ?_)
  · skip
    have e : i = cs.length := by omega
    subst e
    refine hz_lload (pc := 83) 1 (hz_dec kX12_balance 46 rfl) rfl ?_
    exact hz_lret (pc := 85) (hz_dec kX12_balance 47 rfl) rfl hP
  · skip
    refine hz_lload (pc := 48) 1 (hz_dec kX12_balance 28 rfl) rfl ?_
    refine hz_aloadn (pc := 50) 2 (hz_dec kX12_balance 29 rfl) rfl ?_
    refine hz_get (pc := 51) (v := .ref (B + 46)) (hz_dec kX12_balance 30 rfl) fo_X12_149 hO h8 (by omega) (hF.2 50 (by decide) (by decide)) ?_
    refine hz_iload (pc := 54) 0 (hz_dec kX12_balance 31 rfl) rfl ?_
    refine hz_lald (pc := 56) (j := i) (hz_dec kX12_balance 32 rfl) k4 (by omega) (by omega) rfl (by omega) (by decide) ?_
    refine hz_eql (pc := 57) (cX i h1).2.2.2.1 ?_
    refine hz_lload (pc := 57) 3 (hz_dec kX12_balance 33 rfl) rfl ?_
    refine hz_lcmp (pc := 59) (hz_dec kX12_balance 34 rfl) ?_
    refine hz_if_ne (pc := 60) (tgt := 73) (hz_dec kX12_balance 35 rfl) (by decide) (fun h2 => ?_) (fun h2 => ?_)
    · skip
      have e2 : blS cs ad (i + 1) = (blS cs ad i) + (0) := (if_neg (fun c => h2 ((lg_cmp_eq _ _).mpr c))).trans (Int64.add_zero _).symm
      refine hz_lconst (pc := 73) (v := 0) (hz_dec kX12_balance 41 rfl) (by decide) ?_
      refine hz_ladd (pc := 74) (hz_dec kX12_balance 42 rfl) ?_
      refine hz_lstore (pc := 75) (i := 6) (lo2 := [(6, .long ((blS cs ad i) + (0))), (8, .int (nI i)), (0, .ref B), (4, .long ad)]) (hz_dec kX12_balance 43 rfl) (by decide) rfl ?_
      refine hz_incN (pc := 77) (i := 8) (lo2 := [(8, .int (nI (i + 1))), (6, .long ((blS cs ad i) + (0))), (0, .ref B), (4, .long ad)]) 1 (hz_dec kX12_balance 44 rfl) rfl (by decide) rfl ?_
      refine hz_goto (pc := 80) (tgt := 39) (hz_dec kX12_balance 45 rfl) (by decide) ?_
      refine hz_pick (pc := 39) [0, 1, 2, 3] rfl ?_
      have q := ih (cs.length - (i + 1)) (by omega) (i + 1) rfl (by omega)
      rw [e2] at q
      exact q
    · skip
      have e2 : blS cs ad (i + 1) = (blS cs ad i) + ((coL cs i).2.2.1) := if_pos ((lg_cmp_eq _ _).mp h2)
      refine hz_aloadn (pc := 63) 2 (hz_dec kX12_balance 36 rfl) rfl ?_
      refine hz_get (pc := 64) (v := .ref (B + 45)) (hz_dec kX12_balance 37 rfl) fo_X12_146 hO h8 (by omega) (hF.2 49 (by decide) (by decide)) ?_
      refine hz_iload (pc := 67) 0 (hz_dec kX12_balance 38 rfl) rfl ?_
      refine hz_lald (pc := 69) (j := i) (hz_dec kX12_balance 39 rfl) k3 (by omega) (by omega) rfl (by omega) (by decide) ?_
      refine hz_eql (pc := 70) (cX i h1).2.2.1 ?_
      refine hz_goto (pc := 70) (tgt := 74) (hz_dec kX12_balance 40 rfl) (by decide) ?_
      refine hz_ladd (pc := 74) (hz_dec kX12_balance 42 rfl) ?_
      refine hz_lstore (pc := 75) (i := 6) (lo2 := [(6, .long ((blS cs ad i) + ((coL cs i).2.2.1))), (8, .int (nI i)), (0, .ref B), (4, .long ad)]) (hz_dec kX12_balance 43 rfl) (by decide) rfl ?_
      refine hz_incN (pc := 77) (i := 8) (lo2 := [(8, .int (nI (i + 1))), (6, .long ((blS cs ad i) + ((coL cs i).2.2.1))), (0, .ref B), (4, .long ad)]) 1 (hz_dec kX12_balance 44 rfl) rfl (by decide) rfl ?_
      refine hz_goto (pc := 80) (tgt := 39) (hz_dec kX12_balance 45 rfl) (by decide) ?_
      refine hz_pick (pc := 39) [0, 1, 2, 3] rfl ?_
      have q := ih (cs.length - (i + 1)) (by omega) (i + 1) rfl (by omega)
      rw [e2] at q
      exact q
set_option maxHeartbeats 4000000 in
set_option maxRecDepth 100000 in
theorem c_rbalance {κ : hz_C} {z B : Nat} {M : hz_M} {H : ho_H} (hnn : (hoN H).length ≤ 6) (hT4 : (hoT H).length ≤ 4000) (hR : hmR M z B H) {v : Nat} (hv : v < (hoN H).length) {N : nd_N} (hN : ndL (hoN H) v = N) {sd : Int64} (hup : N.2.1 = true) (hI : ksI N.1) : hz_Mt κ xX12_balance 7 0 0 [.ref B, .int (nI v), .long sd] z M (hmP M z B (.long (blS (coAt (ksB N.1) (enB (ksB N.1)) (ksT N.1)) (ky_a sd) (coAt (ksB N.1) (enB (ksB N.1)) (ksT N.1)).length)) H) := by
  refine hz_ent (lo := [(0, .ref B), (1, .int (nI v)), (2, .long sd)]) (by decide) (Nat.le_of_ble_eq_true rfl) rfl ?_
  obtain ⟨hk0_, hE0, ⟨m1, m2, m3⟩, hNd, a5, a6, a7, a8⟩ := id hR
  obtain ⟨⟨fs, hO, hF⟩, -, -, h8, hz⟩ := id hk0_
  obtain ⟨x1, x3, x4, x5, x6, x7, x8⟩ := id m3
  have eSt : stI (ndL (hoN H) v).2.1 = nI 0 := by rw [hN, hup]; rfl
  refine hz_aloadn (pc := 0) 0 (hz_dec kX12_balance 0 rfl) rfl ?_
  refine hz_iconst (pc := 1) (v := nI 0) (hz_dec kX12_balance 1 rfl) (by decide) ?_
  refine hz_puti (pc := 2) (hz_dec kX12_balance 2 rfl) fo_X12_302 ft_X12_0 hO h8 (by omega) (by rw [hF.1]; decide) ?_
  have hf1 : mfr B [0, 89] [] M (va_up M B (.inr (12, (List.set fs 0 (.int (nI 0)))))) := (mfr.rf ⟨fs, hO, hF⟩).upO (k := 0) hO hF rfl rfl
  have hR1 : hmR (va_up M B (.inr (12, (List.set fs 0 (.int (nI 0)))))) z B H := hR.m0 hf1 hE0.upO ((fdB_of (va_up_self _ _ _) 89).trans ((List.getElem?_set_ne (by decide)).trans ((fdB_of hO 89).symm.trans x8)))
  generalize (va_up M B (.inr (12, (List.set fs 0 (.int (nI 0)))))) = M1 at *
  obtain ⟨hk1, hE1, ⟨n1, d1, q1⟩, hNd1, a51, a61, a71, a81⟩ := id hR1
  obtain ⟨⟨fs1, hO1, hF1⟩, -, -, -, -⟩ := id hk1
  refine hz_aloadn (pc := 5) 0 (hz_dec kX12_balance 3 rfl) rfl ?_
  refine hz_iloadn (pc := 6) 1 (hz_dec kX12_balance 4 rfl) rfl ?_
  refine hz_xV (pc := 7) (a := B) (As := [.int (nI v)]) (st := []) (hz_dec kX12_balance 5 rfl) co_X12_692 im_X12_stateOf se_X12_stateOf rfl hO1 h8 (by omega) (c_st hnn hR1 hv) rfl (by decide) ⟨Nat.le_refl _, Nat.le_refl _⟩ (Nat.le_of_ble_eq_true rfl) rfl ?_
  refine hz_eqi (pc := 10) eSt ?_
  refine hz_z_eq (pc := 10) (tgt := 15) (hz_dec kX12_balance 6 rfl) (by decide) (by omega) (fun hq1 => ?_) (fun hq1 => ?_)
  · skip
    refine hz_aloadn (pc := 15) 0 (hz_dec kX12_balance 9 rfl) rfl ?_
    refine hz_lloadn (pc := 16) 2 (hz_dec kX12_balance 10 rfl) rfl ?_
    refine hz_callV (pc := 17) (a := B) (As := [.long sd]) (st := []) (hz_dec kX12_balance 11 rfl) co_X12_430 im_X12_addressOf se_X12_addressOf rfl hO1 h8 (by omega) (c_adOf hk1 hE1.s (v := sd)) rfl (by decide) ⟨Nat.le_refl _, Nat.le_refl _⟩ (Nat.le_of_ble_eq_true rfl) rfl (fun r9 z9 M2 hp9 => ?_)
    obtain ⟨rfl, rfl, hf2, hs2, -⟩ := hp9
    have hm2 : mfr B [] [3, 4, 5, 6, 8] M1 M2 := mfr.ofl hk1.1 hf2 rfl
    have hR2 : hmR M2 z B H := hR1.sc hm2 (hE1.hs hm2 hs2 rfl) rfl rfl rfl rfl rfl rfl rfl rfl rfl rfl rfl rfl rfl rfl rfl rfl rfl rfl rfl
    obtain ⟨hk2, hE2, ⟨n2, d2, q2⟩, hNd2, a52, a62, a72, a82⟩ := id hR2
    obtain ⟨⟨fs2, hO2, hF2⟩, -, -, -, -⟩ := id hk2
    have h0 : mdN M2 B v N := by have q := hNd2 v hv; rw [hN] at q; exact q
    have hv6 : v < 6 := by omega
    have h01 : mnS M2 B v 1 N.1 (pvI (ksF N.1)) (ksP N.1) := by have q := h0.1; rw [hup] at q; exact q
    have h02 : orX (fA M2 B) v (mkO (ksL N.1)) := by have q := h0.2.1; rw [hup] at q; exact q
    obtain ⟨p1, p2, p3, p4, ⟨p5a, p5b, p5c⟩, p6, p7, p9⟩ := id h01
    have hbp := hI.1.p hI.2.1
    obtain ⟨b1, b2, b3, b4, b5, b6, b7, b8⟩ := id hbp
    refine hz_lstore (pc := 20) (i := 4) (lo2 := [(4, .long (ky_a sd)), (0, .ref B), (1, .int (nI v)), (2, .long sd)]) (hz_dec kX12_balance 12 rfl) (by decide) rfl ?_
    refine hz_aloadn (pc := 22) 1 (hz_dec kX12_balance 13 rfl) rfl ?_
    refine hz_iloadn (pc := 23) 2 (hz_dec kX12_balance 14 rfl) rfl ?_
    refine hz_aloadn (pc := 24) 1 (hz_dec kX12_balance 15 rfl) rfl ?_
    refine hz_get (pc := 25) (v := .ref (B + 21)) (hz_dec kX12_balance 16 rfl) fo_X12_74 hO2 h8 (by omega) (hF2.2 23 (by decide) (by decide)) ?_
    refine hz_iloadn (pc := 28) 2 (hz_dec kX12_balance 17 rfl) rfl ?_
    refine hz_iald (pc := 29) (j := v) (hz_dec kX12_balance 18 rfl) hE2.a21 (by omega) (by omega) rfl (by omega) (by decide) ?_
    refine hz_eqi (pc := 30) p5b.2.1 ?_
    refine hz_callV (pc := 30) (a := B) (As := [.int (nI v), .int (nI (ksT N.1))]) (st := []) (hz_dec kX12_balance 19 rfl) co_X12_553 im_X12_unspentBehind se_X12_unspentBehind rfl hO2 h8 (by omega) (c_unR hR2 hnn hv hN hI) rfl (by decide) ⟨Nat.le_refl _, Nat.le_refl _⟩ (Nat.le_of_ble_eq_true rfl) rfl (fun r9 z9 M3 hp9 => ?_)
    obtain ⟨rfl, rfl, hu3, hR3, hc3⟩ := hp9
    refine hz_lconst (pc := 33) (v := 0) (hz_dec kX12_balance 20 rfl) (by decide) ?_
    refine hz_lstore (pc := 34) (i := 6) (lo2 := [(6, .long 0), (4, .long (ky_a sd)), (0, .ref B), (1, .int (nI v)), (2, .long sd)]) (hz_dec kX12_balance 21 rfl) (by decide) rfl ?_
    refine hz_iconst (pc := 36) (v := nI 0) (hz_dec kX12_balance 22 rfl) (by decide) ?_
    refine hz_istore (pc := 37) (i := 8) (lo2 := [(8, .int (nI 0)), (6, .long 0), (4, .long (ky_a sd)), (0, .ref B), (1, .int (nI v)), (2, .long sd)]) (hz_dec kX12_balance 23 rfl) (by decide) rfl ?_
    refine hz_pick (pc := 39) [0, 1, 3, 2] rfl ?_
    exact c_rbal_l h8 hz hc3 ⟨rfl, rfl, ((hf1.S rfl).tr (hm2.S rfl)).tr (hu3.S rfl), hR3⟩ (coAt (ksB N.1) (enB (ksB N.1)) (ksT N.1)).length 0 rfl (by omega)
  · skip
    exact absurd hq1 (by decide)
set_option maxHeartbeats 4000000 in
set_option maxRecDepth 100000 in
theorem c_takeN {κ : hz_C} {z : Nat} {M : hz_M} {H : ho_H} (hz : 63 + 34 * (hoN H).length ≤ z) (hnn : (hoN H).length ≤ 6) (hT4 : (hoT H).length ≤ 4000) {ll : Nat} {fr kn : Int32} (hR : hcR M z H ll fr kn) {v : Int32} {k : Int32} (hv : v < 0 ∨ ¬ v < nI (hoN H).length) : hz_Mt κ xX11_take 2 0 0 [.ref 8, .int v, .int k] z M (hcP M z H (.int (-1)) H) := by
  refine hz_ent (lo := [(0, .ref 8), (1, .int v), (2, .int k)]) (by decide) (Nat.le_of_ble_eq_true rfl) rfl ?_
  have hH := hR.1
  have hNs := hR.2.1
  obtain ⟨hO, hQ, hD⟩ := id hR.2.2.2.2.1
  obtain ⟨g53, h53⟩ := hR.2.2.2.2.2.1
  have hJ := hR.2.2.2.1
  obtain ⟨g56, h56, hT56⟩ := hR.2.2.2.2.2.2.2.2.2.1
  have hdf := hR.2.2.2.2.2.2.2.2.2.2
  have hck : ck_k M z := hJ.2.2.2.2.2.2.2.1
  have hcs : ck_s M := hJ.2.2.2.2.2.2.2.2.1
  have hz63 : 63 ≤ z := by omega
  refine hz_aloadn (pc := 0) 0 (hz_dec kX11_take 0 rfl) rfl ?_
  refine hz_iloadn (pc := 1) 1 (hz_dec kX11_take 1 rfl) rfl ?_
  refine hz_xV (pc := 2) (a := 8) (As := [.int v]) (st := []) (hz_dec kX11_take 2 rfl) co_X11_162 im_X11_nodeOf se_X11_nodeOf rfl hH (by omega) (by omega) (c_nOfN hz63 hH hnn hNs hv) rfl (by decide) ⟨Nat.le_refl _, Nat.le_refl _⟩ (Nat.le_of_ble_eq_true rfl) rfl ?_
  refine hz_astorenN (pc := 5) (i := 3) (lo2 := [(3, .null), (0, .ref 8), (1, .int v), (2, .int k)]) (hz_dec kX11_take 3 rfl) rfl (by decide) rfl ?_
  refine hz_aloadnN (pc := 6) 0 (hz_dec kX11_take 4 rfl) rfl ?_
  refine hz_ifnonnullN (pc := 7) (hz_dec kX11_take 5 rfl) ?_
  refine hz_iconst (pc := 10) (v := (-1)) (hz_dec kX11_take 6 rfl) (by decide) ?_
  exact hz_iret (pc := 11) (hz_dec kX11_take 7 rfl) rfl (hcP.no hR _)
set_option maxHeartbeats 4000000 in
set_option maxRecDepth 100000 in
theorem c_rtakeN {κ : hz_C} {z B : Nat} {M : hz_M} {H : ho_H} (hnn : (hoN H).length ≤ 6) (hT4 : (hoT H).length ≤ 4000) (hR : hmR M z B H) {v : Int32} {k : Int32} (hv : v < 0 ∨ ¬ v < nI (hoN H).length) : hz_Mt κ xX12_take 2 0 0 [.ref B, .int v, .int k] z M (hmP M z B (.int (-1)) H) := by
  refine hz_ent (lo := [(0, .ref B), (1, .int v), (2, .int k)]) (by decide) (Nat.le_of_ble_eq_true rfl) rfl ?_
  obtain ⟨hk0_, hE0, ⟨m1, m2, m3⟩, hNd, a5, a6, a7, a8⟩ := id hR
  obtain ⟨⟨fs, hO, hF⟩, -, -, h8, hz⟩ := id hk0_
  obtain ⟨x1, x3, x4, x5, x6, x7, x8⟩ := id m3
  refine hz_aloadn (pc := 0) 0 (hz_dec kX12_take 0 rfl) rfl ?_
  refine hz_iconst (pc := 1) (v := nI 0) (hz_dec kX12_take 1 rfl) (by decide) ?_
  refine hz_puti (pc := 2) (hz_dec kX12_take 2 rfl) fo_X12_302 ft_X12_0 hO h8 (by omega) (by rw [hF.1]; decide) ?_
  have hf1 : mfr B [0, 89] [] M (va_up M B (.inr (12, (List.set fs 0 (.int (nI 0)))))) := (mfr.rf ⟨fs, hO, hF⟩).upO (k := 0) hO hF rfl rfl
  have hR1 : hmR (va_up M B (.inr (12, (List.set fs 0 (.int (nI 0)))))) z B H := hR.m0 hf1 hE0.upO ((fdB_of (va_up_self _ _ _) 89).trans ((List.getElem?_set_ne (by decide)).trans ((fdB_of hO 89).symm.trans x8)))
  generalize (va_up M B (.inr (12, (List.set fs 0 (.int (nI 0)))))) = M1 at *
  obtain ⟨hk1, hE1, ⟨n1, d1, q1⟩, hNd1, a51, a61, a71, a81⟩ := id hR1
  obtain ⟨⟨fs1, hO1, hF1⟩, -, -, -, -⟩ := id hk1
  refine hz_aloadn (pc := 5) 0 (hz_dec kX12_take 3 rfl) rfl ?_
  refine hz_iloadn (pc := 6) 1 (hz_dec kX12_take 4 rfl) rfl ?_
  refine hz_xV (pc := 7) (a := B) (As := [.int v]) (st := []) (hz_dec kX12_take 5 rfl) co_X12_692 im_X12_stateOf se_X12_stateOf rfl hO1 h8 (by omega) (c_stN hnn hR1 hv) rfl (by decide) ⟨Nat.le_refl _, Nat.le_refl _⟩ (Nat.le_of_ble_eq_true rfl) rfl ?_
  refine hz_istoren (pc := 10) (i := 3) (lo2 := [(3, .int (-1)), (0, .ref B), (1, .int v), (2, .int k)]) (hz_dec kX12_take 6 rfl) rfl (by decide) rfl ?_
  refine hz_iloadn (pc := 11) 0 (hz_dec kX12_take 7 rfl) rfl ?_
  refine hz_if_ge (pc := 12) (tgt := 17) (hz_dec kX12_take 8 rfl) (by decide) (fun hq1 => ?_) (fun hq1 => ?_)
  · skip
    exact absurd hq1 (by decide)
  · skip
    refine hz_iloadn (pc := 15) 0 (hz_dec kX12_take 9 rfl) rfl ?_
    exact hz_iret (pc := 16) (hz_dec kX12_take 10 rfl) rfl ⟨rfl, rfl, hf1.S rfl, hR1⟩
set_option maxHeartbeats 4000000 in
set_option maxRecDepth 100000 in
theorem c_takeD {κ : hz_C} {z : Nat} {M : hz_M} {H : ho_H} (hz : 63 + 34 * (hoN H).length ≤ z) (hnn : (hoN H).length ≤ 6) (hT4 : (hoT H).length ≤ 4000) {ll : Nat} {fr kn : Int32} (hR : hcR M z H ll fr kn) {v : Nat} (hv : v < (hoN H).length) {N : nd_N} (hN : ndL (hoN H) v = N) {k : Int32} (hup : N.2.1 = false) : hz_Mt κ xX11_take 2 0 0 [.ref 8, .int (nI v), .int k] z M (hcP M z H (.int (-2)) H) := by
  refine hz_ent (lo := [(0, .ref 8), (1, .int (nI v)), (2, .int k)]) (by decide) (Nat.le_of_ble_eq_true rfl) rfl ?_
  have hH := hR.1
  have hNs := hR.2.1
  obtain ⟨hO, hQ, hD⟩ := id hR.2.2.2.2.1
  obtain ⟨g53, h53⟩ := hR.2.2.2.2.2.1
  have hJ := hR.2.2.2.1
  obtain ⟨g56, h56, hT56⟩ := hR.2.2.2.2.2.2.2.2.2.1
  have hdf := hR.2.2.2.2.2.2.2.2.2.2
  have hck : ck_k M z := hJ.2.2.2.2.2.2.2.1
  have hcs : ck_s M := hJ.2.2.2.2.2.2.2.2.1
  have hz63 : 63 ≤ z := by omega
  have hK := hR.2.2.1 v hv
  rw [hN] at hK
  obtain ⟨hn, ⟨gd, hgd, hgD⟩, hT, hC, hP, hL⟩ := id hK
  have hn : M (63 + 34 * v) = ndO (63 + 34 * v) (nI v) (nI 0) (nI (ksN N.1)) (pvI (ksF N.1)) N.2.2.1 N.2.2.2 := by rw [hup] at hn; exact hn
  refine hz_aloadn (pc := 0) 0 (hz_dec kX11_take 0 rfl) rfl ?_
  refine hz_iloadn (pc := 1) 1 (hz_dec kX11_take 1 rfl) rfl ?_
  refine hz_xV (pc := 2) (a := 8) (As := [.int (nI v)]) (st := []) (hz_dec kX11_take 2 rfl) co_X11_162 im_X11_nodeOf se_X11_nodeOf rfl hH (by omega) (by omega) (c_nOf hz63 hH hnn hNs (b := v) hv) rfl (by decide) ⟨Nat.le_refl _, Nat.le_refl _⟩ (Nat.le_of_ble_eq_true rfl) rfl ?_
  refine hz_astoren (pc := 5) (i := 3) (lo2 := [(3, .ref (63 + 34 * v)), (0, .ref 8), (1, .int (nI v)), (2, .int k)]) (hz_dec kX11_take 3 rfl) rfl (by decide) rfl ?_
  refine hz_aloadn (pc := 6) 0 (hz_dec kX11_take 4 rfl) rfl ?_
  refine hz_ifnonnull (pc := 7) (tgt := 12) (hz_dec kX11_take 5 rfl) (by decide) ?_
  refine hz_aloadn (pc := 12) 0 (hz_dec kX11_take 8 rfl) rfl ?_
  refine hz_get (pc := 13) (hz_dec kX11_take 9 rfl) fo_X11_166 hn (by omega) (by omega) rfl ?_
  refine hz_z_ne (pc := 16) (tgt := 22) (hz_dec kX11_take 10 rfl) (by decide) (by omega) (fun hq1 => ?_) (fun hq1 => ?_)
  · skip
    exact absurd hq1 (by decide)
  · skip
    refine hz_bipush (pc := 19) (v := (-2)) (hz_dec kX11_take 11 rfl) (by decide) ?_
    exact hz_iret (pc := 21) (hz_dec kX11_take 12 rfl) rfl (hcP.no hR _)
set_option maxHeartbeats 4000000 in
set_option maxRecDepth 100000 in
theorem c_rtakeD {κ : hz_C} {z B : Nat} {M : hz_M} {H : ho_H} (hnn : (hoN H).length ≤ 6) (hT4 : (hoT H).length ≤ 4000) (hR : hmR M z B H) {v : Nat} (hv : v < (hoN H).length) {N : nd_N} (hN : ndL (hoN H) v = N) {k : Int32} (hup : N.2.1 = false) : hz_Mt κ xX12_take 2 0 0 [.ref B, .int (nI v), .int k] z M (hmP M z B (.int (-2)) H) := by
  refine hz_ent (lo := [(0, .ref B), (1, .int (nI v)), (2, .int k)]) (by decide) (Nat.le_of_ble_eq_true rfl) rfl ?_
  obtain ⟨hk0_, hE0, ⟨m1, m2, m3⟩, hNd, a5, a6, a7, a8⟩ := id hR
  obtain ⟨⟨fs, hO, hF⟩, -, -, h8, hz⟩ := id hk0_
  obtain ⟨x1, x3, x4, x5, x6, x7, x8⟩ := id m3
  have eSt : stI (ndL (hoN H) v).2.1 = (-2) := by rw [hN, hup]; rfl
  refine hz_aloadn (pc := 0) 0 (hz_dec kX12_take 0 rfl) rfl ?_
  refine hz_iconst (pc := 1) (v := nI 0) (hz_dec kX12_take 1 rfl) (by decide) ?_
  refine hz_puti (pc := 2) (hz_dec kX12_take 2 rfl) fo_X12_302 ft_X12_0 hO h8 (by omega) (by rw [hF.1]; decide) ?_
  have hf1 : mfr B [0, 89] [] M (va_up M B (.inr (12, (List.set fs 0 (.int (nI 0)))))) := (mfr.rf ⟨fs, hO, hF⟩).upO (k := 0) hO hF rfl rfl
  have hR1 : hmR (va_up M B (.inr (12, (List.set fs 0 (.int (nI 0)))))) z B H := hR.m0 hf1 hE0.upO ((fdB_of (va_up_self _ _ _) 89).trans ((List.getElem?_set_ne (by decide)).trans ((fdB_of hO 89).symm.trans x8)))
  generalize (va_up M B (.inr (12, (List.set fs 0 (.int (nI 0)))))) = M1 at *
  obtain ⟨hk1, hE1, ⟨n1, d1, q1⟩, hNd1, a51, a61, a71, a81⟩ := id hR1
  obtain ⟨⟨fs1, hO1, hF1⟩, -, -, -, -⟩ := id hk1
  refine hz_aloadn (pc := 5) 0 (hz_dec kX12_take 3 rfl) rfl ?_
  refine hz_iloadn (pc := 6) 1 (hz_dec kX12_take 4 rfl) rfl ?_
  refine hz_xV (pc := 7) (a := B) (As := [.int (nI v)]) (st := []) (hz_dec kX12_take 5 rfl) co_X12_692 im_X12_stateOf se_X12_stateOf rfl hO1 h8 (by omega) (c_st hnn hR1 hv) rfl (by decide) ⟨Nat.le_refl _, Nat.le_refl _⟩ (Nat.le_of_ble_eq_true rfl) rfl ?_
  refine hz_eqi (pc := 10) eSt ?_
  refine hz_istoren (pc := 10) (i := 3) (lo2 := [(3, .int (-2)), (0, .ref B), (1, .int (nI v)), (2, .int k)]) (hz_dec kX12_take 6 rfl) rfl (by decide) rfl ?_
  refine hz_iloadn (pc := 11) 0 (hz_dec kX12_take 7 rfl) rfl ?_
  refine hz_if_ge (pc := 12) (tgt := 17) (hz_dec kX12_take 8 rfl) (by decide) (fun hq1 => ?_) (fun hq1 => ?_)
  · skip
    exact absurd hq1 (by decide)
  · skip
    refine hz_iloadn (pc := 15) 0 (hz_dec kX12_take 9 rfl) rfl ?_
    exact hz_iret (pc := 16) (hz_dec kX12_take 10 rfl) rfl ⟨rfl, rfl, hf1.S rfl, hR1⟩
set_option maxHeartbeats 4000000 in
set_option maxRecDepth 100000 in
theorem c_takeK {κ : hz_C} {z : Nat} {M : hz_M} {H : ho_H} (hz : 63 + 34 * (hoN H).length ≤ z) (hnn : (hoN H).length ≤ 6) (hT4 : (hoT H).length ≤ 4000) {ll : Nat} {fr kn : Int32} (hR : hcR M z H ll fr kn) {v : Nat} (hv : v < (hoN H).length) {N : nd_N} (hN : ndL (hoN H) v = N) {k : Int32} (hup : N.2.1 = true) (hI : ksI N.1) (hk : k < 0 ∨ ¬ k < nI (ksB N.1).length) : hz_Mt κ xX11_take 2 0 0 [.ref 8, .int (nI v), .int k] z M (hcP M z H (.int (-1)) H) := by
  refine hz_ent (lo := [(0, .ref 8), (1, .int (nI v)), (2, .int k)]) (by decide) (Nat.le_of_ble_eq_true rfl) rfl ?_
  have hH := hR.1
  have hNs := hR.2.1
  obtain ⟨hO, hQ, hD⟩ := id hR.2.2.2.2.1
  obtain ⟨g53, h53⟩ := hR.2.2.2.2.2.1
  have hJ := hR.2.2.2.1
  obtain ⟨g56, h56, hT56⟩ := hR.2.2.2.2.2.2.2.2.2.1
  have hdf := hR.2.2.2.2.2.2.2.2.2.2
  have hck : ck_k M z := hJ.2.2.2.2.2.2.2.1
  have hcs : ck_s M := hJ.2.2.2.2.2.2.2.2.1
  have hz63 : 63 ≤ z := by omega
  have hK := hR.2.2.1 v hv
  rw [hN] at hK
  obtain ⟨hn, ⟨gd, hgd, hgD⟩, hT, hC, hP, hL⟩ := id hK
  have hn : M (63 + 34 * v) = ndO (63 + 34 * v) (nI v) (nI 1) (nI (ksN N.1)) (pvI (ksF N.1)) N.2.2.1 N.2.2.2 := by rw [hup] at hn; exact hn
  have htO := hT.1
  have htR := hT.2.1.1
  rw [List.length_map] at htR
  obtain ⟨fb, fht, ftm, fbi, t5, t6, t7, t8, tX⟩ := id hT.2.2.2.1
  have hen : (enB (ksB N.1)).length = (ksB N.1).length := enB_len _
  refine hz_aloadn (pc := 0) 0 (hz_dec kX11_take 0 rfl) rfl ?_
  refine hz_iloadn (pc := 1) 1 (hz_dec kX11_take 1 rfl) rfl ?_
  refine hz_xV (pc := 2) (a := 8) (As := [.int (nI v)]) (st := []) (hz_dec kX11_take 2 rfl) co_X11_162 im_X11_nodeOf se_X11_nodeOf rfl hH (by omega) (by omega) (c_nOf hz63 hH hnn hNs (b := v) hv) rfl (by decide) ⟨Nat.le_refl _, Nat.le_refl _⟩ (Nat.le_of_ble_eq_true rfl) rfl ?_
  refine hz_astoren (pc := 5) (i := 3) (lo2 := [(3, .ref (63 + 34 * v)), (0, .ref 8), (1, .int (nI v)), (2, .int k)]) (hz_dec kX11_take 3 rfl) rfl (by decide) rfl ?_
  refine hz_aloadn (pc := 6) 0 (hz_dec kX11_take 4 rfl) rfl ?_
  refine hz_ifnonnull (pc := 7) (tgt := 12) (hz_dec kX11_take 5 rfl) (by decide) ?_
  refine hz_aloadn (pc := 12) 0 (hz_dec kX11_take 8 rfl) rfl ?_
  refine hz_get (pc := 13) (hz_dec kX11_take 9 rfl) fo_X11_166 hn (by omega) (by omega) rfl ?_
  refine hz_z_ne (pc := 16) (tgt := 22) (hz_dec kX11_take 10 rfl) (by decide) (by omega) (fun hq1 => ?_) (fun hq1 => ?_)
  · skip
    refine hz_aloadn (pc := 22) 0 (hz_dec kX11_take 13 rfl) rfl ?_
    refine hz_get (pc := 23) (hz_dec kX11_take 14 rfl) fo_X11_104 hn (by omega) (by omega) rfl ?_
    refine hz_get (pc := 26) (hz_dec kX11_take 15 rfl) fo_X11_217 htO (by omega) (by omega) rfl ?_
    refine hz_astore (pc := 29) (i := 4) (lo2 := [(4, .ref (63 + 34 * v + 21 + 1)), (3, .ref (63 + 34 * v)), (0, .ref 8), (1, .int (nI v)), (2, .int k)]) (hz_dec kX11_take 16 rfl) (by decide) rfl ?_
    refine hz_iloadn (pc := 31) 4 (hz_dec kX11_take 17 rfl) rfl ?_
    refine hz_if_lt (pc := 32) (tgt := 44) (hz_dec kX11_take 18 rfl) (by decide) (fun h3 => ?_) (fun h3 => ?_)
    · skip
      refine hz_iconst (pc := 44) (v := (-1)) (hz_dec kX11_take 23 rfl) (by decide) ?_
      exact hz_iret (pc := 45) (hz_dec kX11_take 24 rfl) rfl (hcP.no hR _)
    · skip
      refine hz_iloadn (pc := 35) 4 (hz_dec kX11_take 19 rfl) rfl ?_
      refine hz_aload (pc := 36) 0 (hz_dec kX11_take 20 rfl) rfl ?_
      refine hz_get (pc := 38) (hz_dec kX11_take 21 rfl) fo_X11_220 htR (by omega) (by omega) rfl ?_
      refine hz_icmp_lt (pc := 41) (tgt := 46) (hz_dec kX11_take 22 rfl) (by decide) (fun h4 => ?_) (fun h4 => ?_)
      · skip
        exact absurd h4 (hk.resolve_left h3)
      · skip
        refine hz_iconst (pc := 44) (v := (-1)) (hz_dec kX11_take 23 rfl) (by decide) ?_
        exact hz_iret (pc := 45) (hz_dec kX11_take 24 rfl) rfl (hcP.no hR _)
  · skip
    exact absurd hq1 (by decide)
set_option maxHeartbeats 4000000 in
set_option maxRecDepth 100000 in
theorem c_rtakeK {κ : hz_C} {z B : Nat} {M : hz_M} {H : ho_H} (hnn : (hoN H).length ≤ 6) (hT4 : (hoT H).length ≤ 4000) (hR : hmR M z B H) {v : Nat} (hv : v < (hoN H).length) {N : nd_N} (hN : ndL (hoN H) v = N) {k : Int32} (hup : N.2.1 = true) (hI : ksI N.1) (hk : k < 0 ∨ ¬ k < nI (ksB N.1).length) : hz_Mt κ xX12_take 2 0 0 [.ref B, .int (nI v), .int k] z M (hmP M z B (.int (-1)) H) := by
  refine hz_ent (lo := [(0, .ref B), (1, .int (nI v)), (2, .int k)]) (by decide) (Nat.le_of_ble_eq_true rfl) rfl ?_
  obtain ⟨hk0_, hE0, ⟨m1, m2, m3⟩, hNd, a5, a6, a7, a8⟩ := id hR
  obtain ⟨⟨fs, hO, hF⟩, -, -, h8, hz⟩ := id hk0_
  obtain ⟨x1, x3, x4, x5, x6, x7, x8⟩ := id m3
  have eSt : stI (ndL (hoN H) v).2.1 = nI 0 := by rw [hN, hup]; rfl
  refine hz_aloadn (pc := 0) 0 (hz_dec kX12_take 0 rfl) rfl ?_
  refine hz_iconst (pc := 1) (v := nI 0) (hz_dec kX12_take 1 rfl) (by decide) ?_
  refine hz_puti (pc := 2) (hz_dec kX12_take 2 rfl) fo_X12_302 ft_X12_0 hO h8 (by omega) (by rw [hF.1]; decide) ?_
  have hf1 : mfr B [0, 89] [] M (va_up M B (.inr (12, (List.set fs 0 (.int (nI 0)))))) := (mfr.rf ⟨fs, hO, hF⟩).upO (k := 0) hO hF rfl rfl
  have hR1 : hmR (va_up M B (.inr (12, (List.set fs 0 (.int (nI 0)))))) z B H := hR.m0 hf1 hE0.upO ((fdB_of (va_up_self _ _ _) 89).trans ((List.getElem?_set_ne (by decide)).trans ((fdB_of hO 89).symm.trans x8)))
  generalize (va_up M B (.inr (12, (List.set fs 0 (.int (nI 0)))))) = M1 at *
  obtain ⟨hk1, hE1, ⟨n1, d1, q1⟩, hNd1, a51, a61, a71, a81⟩ := id hR1
  obtain ⟨⟨fs1, hO1, hF1⟩, -, -, -, -⟩ := id hk1
  have h0 : mdN M1 B v N := by have q := hNd1 v hv; rw [hN] at q; exact q
  have hv6 : v < 6 := by omega
  have h01 : mnS M1 B v 1 N.1 (pvI (ksF N.1)) (ksP N.1) := by have q := h0.1; rw [hup] at q; exact q
  have h02 : orX (fA M1 B) v (mkO (ksL N.1)) := by have q := h0.2.1; rw [hup] at q; exact q
  obtain ⟨p1, p2, p3, p4, ⟨p5a, p5b, p5c⟩, p6, p7, p9⟩ := id h01
  have hbp := hI.1.p hI.2.1
  obtain ⟨b1, b2, b3, b4, b5, b6, b7, b8⟩ := id hbp
  refine hz_aloadn (pc := 5) 0 (hz_dec kX12_take 3 rfl) rfl ?_
  refine hz_iloadn (pc := 6) 1 (hz_dec kX12_take 4 rfl) rfl ?_
  refine hz_xV (pc := 7) (a := B) (As := [.int (nI v)]) (st := []) (hz_dec kX12_take 5 rfl) co_X12_692 im_X12_stateOf se_X12_stateOf rfl hO1 h8 (by omega) (c_st hnn hR1 hv) rfl (by decide) ⟨Nat.le_refl _, Nat.le_refl _⟩ (Nat.le_of_ble_eq_true rfl) rfl ?_
  refine hz_eqi (pc := 10) eSt ?_
  refine hz_istoren (pc := 10) (i := 3) (lo2 := [(3, .int (nI 0)), (0, .ref B), (1, .int (nI v)), (2, .int k)]) (hz_dec kX12_take 6 rfl) rfl (by decide) rfl ?_
  refine hz_iloadn (pc := 11) 0 (hz_dec kX12_take 7 rfl) rfl ?_
  refine hz_z_ge (pc := 12) (tgt := 17) (hz_dec kX12_take 8 rfl) (by decide) (by omega) ?_
  refine hz_iloadn (pc := 17) 3 (hz_dec kX12_take 11 rfl) rfl ?_
  refine hz_if_lt (pc := 18) (tgt := 31) (hz_dec kX12_take 12 rfl) (by decide) (fun h3 => ?_) (fun h3 => ?_)
  · skip
    refine hz_iconst (pc := 31) (v := (-1)) (hz_dec kX12_take 19 rfl) (by decide) ?_
    exact hz_iret (pc := 32) (hz_dec kX12_take 20 rfl) rfl ⟨rfl, rfl, hf1.S rfl, hR1⟩
  · skip
    refine hz_iloadn (pc := 21) 3 (hz_dec kX12_take 13 rfl) rfl ?_
    refine hz_aloadn (pc := 22) 1 (hz_dec kX12_take 14 rfl) rfl ?_
    refine hz_get (pc := 23) (v := .ref (B + 20)) (hz_dec kX12_take 15 rfl) fo_X12_71 hO1 h8 (by omega) (hF1.2 22 (by decide) (by decide)) ?_
    refine hz_iloadn (pc := 26) 2 (hz_dec kX12_take 16 rfl) rfl ?_
    refine hz_iald (pc := 27) (j := v) (hz_dec kX12_take 17 rfl) hE1.a20 (by omega) (by omega) rfl (by omega) (by decide) ?_
    refine hz_eqi (pc := 28) p5b.1 ?_
    refine hz_icmp_lt (pc := 28) (tgt := 33) (hz_dec kX12_take 18 rfl) (by decide) (fun h4 => ?_) (fun h4 => ?_)
    · skip
      exact absurd h4 (hk.resolve_left h3)
    · skip
      refine hz_iconst (pc := 31) (v := (-1)) (hz_dec kX12_take 19 rfl) (by decide) ?_
      exact hz_iret (pc := 32) (hz_dec kX12_take 20 rfl) rfl ⟨rfl, rfl, hf1.S rfl, hR1⟩
set_option maxHeartbeats 4000000 in
set_option maxRecDepth 100000 in
theorem c_take {κ : hz_C} {z : Nat} {M : hz_M} {H : ho_H} (hz : 63 + 34 * (hoN H).length ≤ z) (hnn : (hoN H).length ≤ 6) (hT4 : (hoT H).length ≤ 4000) {ll : Nat} {fr kn : Int32} (hR : hcR M z H ll fr kn) {v : Nat} (hv : v < (hoN H).length) {N : nd_N} (hN : ndL (hoN H) v = N) {k : Nat} (hup : N.2.1 = true) (hI : ksI N.1) (hk : k < (ksB N.1).length) : hz_Mt κ xX11_take 2 0 0 [.ref 8, .int (nI v), .int (nI k)] z M (hcP M z H (.int (nI (bBy (ksB N.1) k).length)) (hot H (bBy (ksB N.1) k) (hoE H))) := by
  refine hz_ent (lo := [(0, .ref 8), (1, .int (nI v)), (2, .int (nI k))]) (by decide) (Nat.le_of_ble_eq_true rfl) rfl ?_
  have hH := hR.1
  have hNs := hR.2.1
  obtain ⟨hO, hQ, hD⟩ := id hR.2.2.2.2.1
  obtain ⟨g53, h53⟩ := hR.2.2.2.2.2.1
  have hJ := hR.2.2.2.1
  obtain ⟨g56, h56, hT56⟩ := hR.2.2.2.2.2.2.2.2.2.1
  have hdf := hR.2.2.2.2.2.2.2.2.2.2
  have hck : ck_k M z := hJ.2.2.2.2.2.2.2.1
  have hcs : ck_s M := hJ.2.2.2.2.2.2.2.2.1
  have hz63 : 63 ≤ z := by omega
  have hK := hR.2.2.1 v hv
  rw [hN] at hK
  obtain ⟨hn, ⟨gd, hgd, hgD⟩, hT, hC, hP, hL⟩ := id hK
  have hn : M (63 + 34 * v) = ndO (63 + 34 * v) (nI v) (nI 1) (nI (ksN N.1)) (pvI (ksF N.1)) N.2.2.1 N.2.2.2 := by rw [hup] at hn; exact hn
  have htO := hT.1
  have htR := hT.2.1.1
  rw [List.length_map] at htR
  obtain ⟨fb, fht, ftm, fbi, t5, t6, t7, t8, tX⟩ := id hT.2.2.2.1
  have hen : (enB (ksB N.1)).length = (ksB N.1).length := enB_len _
  have hrx := hT.2.1
  obtain ⟨fB, gB, hfB, hgB, hxB⟩ := hrx.2.2.2
  have hg1 : gB k = nI (offL ((ksB N.1).map Prod.fst) k) := hxB.1 k (by rw [List.length_map]; omega)
  have hbx : blX (ksB N.1) := hI.1.2.2.2.2.2.1
  have hbl := (hbx k hk).len
  have hoo : offL ((ksB N.1).map Prod.fst) k + (bBy (ksB N.1) k).length ≤ 12391 := by have r := offL_mono ((ksB N.1).map Prod.fst) (ksB N.1).length (k + 1) (by omega); simp only [offL] at r; rw [rowL_bl] at r; have r2 := hrx.2.2.1; rw [List.length_map] at r2; omega
  have hAk : isA fB (offL ((ksB N.1).map Prod.fst) k) (bBy (ksB N.1) k) := by have q := hxB.2 k (by rw [List.length_map]; exact hk); rw [rowL_bl] at q; exact q
  have hb113 := hI.1.top.2.1
  refine hz_aloadn (pc := 0) 0 (hz_dec kX11_take 0 rfl) rfl ?_
  refine hz_iloadn (pc := 1) 1 (hz_dec kX11_take 1 rfl) rfl ?_
  refine hz_xV (pc := 2) (a := 8) (As := [.int (nI v)]) (st := []) (hz_dec kX11_take 2 rfl) co_X11_162 im_X11_nodeOf se_X11_nodeOf rfl hH (by omega) (by omega) (c_nOf hz63 hH hnn hNs (b := v) hv) rfl (by decide) ⟨Nat.le_refl _, Nat.le_refl _⟩ (Nat.le_of_ble_eq_true rfl) rfl ?_
  refine hz_astoren (pc := 5) (i := 3) (lo2 := [(3, .ref (63 + 34 * v)), (0, .ref 8), (1, .int (nI v)), (2, .int (nI k))]) (hz_dec kX11_take 3 rfl) rfl (by decide) rfl ?_
  refine hz_aloadn (pc := 6) 0 (hz_dec kX11_take 4 rfl) rfl ?_
  refine hz_ifnonnull (pc := 7) (tgt := 12) (hz_dec kX11_take 5 rfl) (by decide) ?_
  refine hz_aloadn (pc := 12) 0 (hz_dec kX11_take 8 rfl) rfl ?_
  refine hz_get (pc := 13) (hz_dec kX11_take 9 rfl) fo_X11_166 hn (by omega) (by omega) rfl ?_
  refine hz_z_ne (pc := 16) (tgt := 22) (hz_dec kX11_take 10 rfl) (by decide) (by omega) (fun hq1 => ?_) (fun hq1 => ?_)
  · skip
    refine hz_aloadn (pc := 22) 0 (hz_dec kX11_take 13 rfl) rfl ?_
    refine hz_get (pc := 23) (hz_dec kX11_take 14 rfl) fo_X11_104 hn (by omega) (by omega) rfl ?_
    refine hz_get (pc := 26) (hz_dec kX11_take 15 rfl) fo_X11_217 htO (by omega) (by omega) rfl ?_
    refine hz_astore (pc := 29) (i := 4) (lo2 := [(4, .ref (63 + 34 * v + 21 + 1)), (3, .ref (63 + 34 * v)), (0, .ref 8), (1, .int (nI v)), (2, .int (nI k))]) (hz_dec kX11_take 16 rfl) (by decide) rfl ?_
    refine hz_iloadn (pc := 31) 4 (hz_dec kX11_take 17 rfl) rfl ?_
    refine hz_z_lt (pc := 32) (tgt := 44) (hz_dec kX11_take 18 rfl) (by decide) (by omega) ?_
    refine hz_iloadn (pc := 35) 4 (hz_dec kX11_take 19 rfl) rfl ?_
    refine hz_aload (pc := 36) 0 (hz_dec kX11_take 20 rfl) rfl ?_
    refine hz_get (pc := 38) (hz_dec kX11_take 21 rfl) fo_X11_220 htR (by omega) (by omega) rfl ?_
    refine hz_n_lt (pc := 41) (tgt := 46) (hz_dec kX11_take 22 rfl) (by decide) (by omega) (by omega) (fun h4 => ?_) (fun h4 => ?_)
    · skip
      refine hz_aloadn (pc := 46) 2 (hz_dec kX11_take 25 rfl) rfl ?_
      refine hz_aload (pc := 47) 0 (hz_dec kX11_take 26 rfl) rfl ?_
      refine hz_iloadn (pc := 49) 4 (hz_dec kX11_take 27 rfl) rfl ?_
      refine hz_xV (pc := 50) (a := 63 + 34 * v + 21 + 1) (As := [.int (nI k)]) (st := [.ref 8]) (hz_dec kX11_take 28 rfl) co_X11_221 im_X7_lengthOf se_X7_lengthOf rfl htR (by omega) (by omega) (c_lenOf hrx (by omega) (by omega) (by decide) (by decide) (k := k) (by rw [List.length_map]; exact hk)) rfl (by decide) ⟨Nat.le_refl _, Nat.le_refl _⟩ (Nat.le_of_ble_eq_true rfl) rfl ?_
      refine hz_eqi (pc := 53) (congrArg nI (congrArg List.length (rowL_bl (ksB N.1) k))) ?_
      refine hz_puti (pc := 53) (hz_dec kX11_take 29 rfl) fo_X11_124 ft_X11_8 hH (by omega) (by omega) (Nat.le_of_ble_eq_true rfl) ?_
      refine hz_mem (pc := 56) (M2 := (va_up M 8 (.inr (11, [.ref 9, .ref 13, .ref 20, .ref 25, .ref 39, .ref 45, .ref 55, .ref 56, .int (nI ((bBy (ksB N.1) k).length)), .int (hoE H), .ref 57, .ref 58, .ref 61])))) rfl ?_
      refine hz_aload (pc := 56) 0 (hz_dec kX11_take 30 rfl) rfl ?_
      refine hz_get (pc := 58) (hz_dec kX11_take 31 rfl) fo_X11_225 (hz_mne htR (by omega)) (by omega) (by omega) rfl ?_
      refine hz_aload (pc := 61) 0 (hz_dec kX11_take 32 rfl) rfl ?_
      refine hz_get (pc := 63) (hz_dec kX11_take 33 rfl) fo_X11_228 (hz_mne htR (by omega)) (by omega) (by omega) rfl ?_
      refine hz_iloadn (pc := 66) 4 (hz_dec kX11_take 34 rfl) rfl ?_
      refine hz_iald (pc := 67) (j := k) (hz_dec kX11_take 35 rfl) (hz_mne hgB (by omega)) (by omega) (by omega) rfl (by omega) (by decide) ?_
      refine hz_eqi (pc := 68) hg1 ?_
      refine hz_aloadn (pc := 68) 2 (hz_dec kX11_take 36 rfl) rfl ?_
      refine hz_get (pc := 69) (hz_dec kX11_take 37 rfl) fo_X11_72 (va_up_self _ _ _) (by omega) (by omega) rfl ?_
      refine hz_iconst (pc := 72) (v := nI 0) (hz_dec kX11_take 38 rfl) (by decide) ?_
      refine hz_aloadn (pc := 73) 2 (hz_dec kX11_take 39 rfl) rfl ?_
      refine hz_get (pc := 74) (hz_dec kX11_take 40 rfl) fo_X11_124 (va_up_self _ _ _) (by omega) (by omega) rfl ?_
      refine hz_xS (pc := 77) (As := [.ref (63 + 34 * v + 21 + 1 + 1), .int (nI (offL ((ksB N.1).map Prod.fst) k)), .ref 56, .int (nI 0), .int (nI ((bBy (ksB N.1) k).length))]) (st := []) (hz_dec kX11_take 41 rfl) co_X11_231 sc_X0_copy (c_copy (i0 := offL ((ksB N.1).map Prod.fst) k) (j0 := 0) (mn := (bBy (ksB N.1) k).length) (hz_mne hfB (by omega)) (by omega) (by omega) (by decide) (hz_mne h56 (by omega)) (by decide) (by omega) (by decide) (by omega) (by omega)) rfl (by decide) ⟨Nat.le_refl _, Nat.le_refl _⟩ (Nat.le_of_ble_eq_true rfl) rfl ?_
      refine hz_mem (pc := 80) (M2 := (va_up (va_up M 8 (.inr (11, [.ref 9, .ref 13, .ref 20, .ref 25, .ref 39, .ref 45, .ref 55, .ref 56, .int (nI ((bBy (ksB N.1) k).length)), .int (hoE H), .ref 57, .ref 58, .ref 61]))) 56 (.inl (1, 4000, .inl (va_cpy fB g56 (offL ((ksB N.1).map Prod.fst) k) 0 (bBy (ksB N.1) k).length))))) rfl ?_
      refine hz_aloadn (pc := 80) 2 (hz_dec kX11_take 42 rfl) rfl ?_
      refine hz_get (pc := 81) (hz_dec kX11_take 43 rfl) fo_X11_124 (hz_mne (va_up_self _ _ _) (by omega)) (by omega) (by omega) rfl ?_
      have hf : frS [(8, 9), (56, 57)] M (va_up (va_up M 8 (.inr (11, [.ref 9, .ref 13, .ref 20, .ref 25, .ref 39, .ref 45, .ref 55, .ref 56, .int (nI ((bBy (ksB N.1) k).length)), .int (hoE H), .ref 57, .ref 58, .ref 61]))) 56 (.inl (1, 4000, .inl (va_cpy fB g56 (offL ((ksB N.1).map Prod.fst) k) 0 (bBy (ksB N.1) k).length)))) := (((frS.rf (S := [(8, 9), (56, 57)])).upr (a := 8) (by simp only [outS, and_true]; omega)).upr (a := 56) (by simp only [outS, and_true]; omega))
      have hR2 : hcR (va_up (va_up M 8 (.inr (11, [.ref 9, .ref 13, .ref 20, .ref 25, .ref 39, .ref 45, .ref 55, .ref 56, .int (nI ((bBy (ksB N.1) k).length)), .int (hoE H), .ref 57, .ref 58, .ref 61]))) 56 (.inl (1, 4000, .inl (va_cpy fB g56 (offL ((ksB N.1).map Prod.fst) k) 0 (bBy (ksB N.1) k).length)))) z (hot H (bBy (ksB N.1) k) (hoE H)) ll fr kn := hR.t hf (hz_mne (va_up_self _ _ _) (by decide)) ⟨_, va_up_self _ _ _, fun j hj => by rw [Nat.zero_add, cpy_in hj]; exact hAk j hj⟩
      exact hz_iret (pc := 84) (hz_dec kX11_take 44 rfl) rfl ⟨rfl, rfl, (hf.mono (fun q (h9 : outS [(8, 63 + 34 * (hoN H).length)] q) => ⟨by have r := h9.1; omega, by have r := h9.1; omega, trivial⟩)), ll, fr, kn, hR2⟩
    · skip
      exact absurd hk (by omega)
  · skip
    exact absurd hq1 (by decide)
set_option maxHeartbeats 4000000 in
set_option maxRecDepth 100000 in
theorem c_rtake {κ : hz_C} {z B : Nat} {M : hz_M} {H : ho_H} (hnn : (hoN H).length ≤ 6) (hT4 : (hoT H).length ≤ 4000) (hR : hmR M z B H) {v : Nat} (hv : v < (hoN H).length) {N : nd_N} (hN : ndL (hoN H) v = N) {k : Nat} (hup : N.2.1 = true) (hI : ksI N.1) (hk : k < (ksB N.1).length) : hz_Mt κ xX12_take 2 0 0 [.ref B, .int (nI v), .int (nI k)] z M (hmP M z B (.int (nI (bBy (ksB N.1) k).length)) (hot H (bBy (ksB N.1) k) (hoE H))) := by
  refine hz_ent (lo := [(0, .ref B), (1, .int (nI v)), (2, .int (nI k))]) (by decide) (Nat.le_of_ble_eq_true rfl) rfl ?_
  obtain ⟨hk0_, hE0, ⟨m1, m2, m3⟩, hNd, a5, a6, a7, a8⟩ := id hR
  obtain ⟨⟨fs, hO, hF⟩, -, -, h8, hz⟩ := id hk0_
  obtain ⟨x1, x3, x4, x5, x6, x7, x8⟩ := id m3
  have eSt : stI (ndL (hoN H) v).2.1 = nI 0 := by rw [hN, hup]; rfl
  refine hz_aloadn (pc := 0) 0 (hz_dec kX12_take 0 rfl) rfl ?_
  refine hz_iconst (pc := 1) (v := nI 0) (hz_dec kX12_take 1 rfl) (by decide) ?_
  refine hz_puti (pc := 2) (hz_dec kX12_take 2 rfl) fo_X12_302 ft_X12_0 hO h8 (by omega) (by rw [hF.1]; decide) ?_
  have hf1 : mfr B [0, 89] [] M (va_up M B (.inr (12, (List.set fs 0 (.int (nI 0)))))) := (mfr.rf ⟨fs, hO, hF⟩).upO (k := 0) hO hF rfl rfl
  have hR1 : hmR (va_up M B (.inr (12, (List.set fs 0 (.int (nI 0)))))) z B H := hR.m0 hf1 hE0.upO ((fdB_of (va_up_self _ _ _) 89).trans ((List.getElem?_set_ne (by decide)).trans ((fdB_of hO 89).symm.trans x8)))
  generalize (va_up M B (.inr (12, (List.set fs 0 (.int (nI 0)))))) = M1 at *
  obtain ⟨hk1, hE1, ⟨n1, d1, q1⟩, hNd1, a51, a61, a71, a81⟩ := id hR1
  obtain ⟨⟨fs1, hO1, hF1⟩, -, -, -, -⟩ := id hk1
  have h0 : mdN M1 B v N := by have q := hNd1 v hv; rw [hN] at q; exact q
  have hv6 : v < 6 := by omega
  have h01 : mnS M1 B v 1 N.1 (pvI (ksF N.1)) (ksP N.1) := by have q := h0.1; rw [hup] at q; exact q
  have h02 : orX (fA M1 B) v (mkO (ksL N.1)) := by have q := h0.2.1; rw [hup] at q; exact q
  obtain ⟨p1, p2, p3, p4, ⟨p5a, p5b, p5c⟩, p6, p7, p9⟩ := id h01
  have hbp := hI.1.p hI.2.1
  obtain ⟨b1, b2, b3, b4, b5, b6, b7, b8⟩ := id hbp
  refine hz_aloadn (pc := 5) 0 (hz_dec kX12_take 3 rfl) rfl ?_
  refine hz_iloadn (pc := 6) 1 (hz_dec kX12_take 4 rfl) rfl ?_
  refine hz_xV (pc := 7) (a := B) (As := [.int (nI v)]) (st := []) (hz_dec kX12_take 5 rfl) co_X12_692 im_X12_stateOf se_X12_stateOf rfl hO1 h8 (by omega) (c_st hnn hR1 hv) rfl (by decide) ⟨Nat.le_refl _, Nat.le_refl _⟩ (Nat.le_of_ble_eq_true rfl) rfl ?_
  refine hz_eqi (pc := 10) eSt ?_
  refine hz_istoren (pc := 10) (i := 3) (lo2 := [(3, .int (nI 0)), (0, .ref B), (1, .int (nI v)), (2, .int (nI k))]) (hz_dec kX12_take 6 rfl) rfl (by decide) rfl ?_
  refine hz_iloadn (pc := 11) 0 (hz_dec kX12_take 7 rfl) rfl ?_
  refine hz_z_ge (pc := 12) (tgt := 17) (hz_dec kX12_take 8 rfl) (by decide) (by omega) ?_
  refine hz_iloadn (pc := 17) 3 (hz_dec kX12_take 11 rfl) rfl ?_
  refine hz_z_lt (pc := 18) (tgt := 31) (hz_dec kX12_take 12 rfl) (by decide) (by omega) ?_
  refine hz_iloadn (pc := 21) 3 (hz_dec kX12_take 13 rfl) rfl ?_
  refine hz_aloadn (pc := 22) 1 (hz_dec kX12_take 14 rfl) rfl ?_
  refine hz_get (pc := 23) (v := .ref (B + 20)) (hz_dec kX12_take 15 rfl) fo_X12_71 hO1 h8 (by omega) (hF1.2 22 (by decide) (by decide)) ?_
  refine hz_iloadn (pc := 26) 2 (hz_dec kX12_take 16 rfl) rfl ?_
  refine hz_iald (pc := 27) (j := v) (hz_dec kX12_take 17 rfl) hE1.a20 (by omega) (by omega) rfl (by omega) (by decide) ?_
  refine hz_eqi (pc := 28) p5b.1 ?_
  refine hz_n_lt (pc := 28) (tgt := 33) (hz_dec kX12_take 18 rfl) (by decide) (by omega) (by omega) (fun h4 => ?_) (fun h4 => ?_)
  · skip
    refine hz_aloadn (pc := 33) 1 (hz_dec kX12_take 21 rfl) rfl ?_
    refine hz_iloadn (pc := 34) 2 (hz_dec kX12_take 22 rfl) rfl ?_
    refine hz_iloadn (pc := 35) 3 (hz_dec kX12_take 23 rfl) rfl ?_
    have hbl := (b4 k hk).len
    refine hz_callV (pc := 36) (a := B) (As := [.int (nI v), .int (nI k)]) (st := []) (hz_dec kX12_take 24 rfl) co_X12_664 im_X12_bring se_X12_bring rfl hO1 h8 (by omega) (c_br hk1.1 hE1 h8 hz hv6 (by omega) p5b hk (p5c k hk) (by omega)) rfl (by decide) ⟨Nat.le_refl _, Nat.le_refl _⟩ (Nat.le_of_ble_eq_true rfl) rfl (fun r9 z9 M2 hp9 => ?_)
    obtain ⟨rfl, rfl, hf2, hE2_, h39, hA2⟩ := hp9
    have hR2 : hmR M2 z B H := hR1.sc hf2 hE2_ rfl rfl rfl rfl rfl rfl rfl rfl rfl rfl rfl rfl rfl rfl rfl rfl rfl rfl rfl
    obtain ⟨hk2, hE2, ⟨n2, d2, q2⟩, hNd2, a52, a62, a72, a82⟩ := id hR2
    obtain ⟨⟨fs2, hO2, hF2⟩, -, -, -, -⟩ := id hk2
    refine hz_aloadn (pc := 39) 1 (hz_dec kX12_take 25 rfl) rfl ?_
    refine hz_callV (pc := 40) (a := B) (As := []) (st := []) (hz_dec kX12_take 26 rfl) co_X12_699 im_X12_bodyToTape se_X12_bodyToTape rfl hO2 h8 (by omega) (c_bTT hk2.1 hE2 h8 hz (by omega) hA2 h39) rfl (by decide) ⟨Nat.le_refl _, Nat.le_refl _⟩ (Nat.le_of_ble_eq_true rfl) rfl (fun r9 z9 M3 hp9 => ?_)
    obtain ⟨rfl, rfl, hf3, hE3, hA3, h95⟩ := hp9
    have hR3 : hmR M3 z B (hot H (bBy (ksB N.1) k) (hoE H)) := hR2.t (hf3.mono rfl rfl) hE3 hA3 h95 ((hf3.2.2 103 rfl).trans a82)
    obtain ⟨fs3, hO3, hF3⟩ := id hf3.2.1
    have g95 : fs3[95]? = some (.int (nI (bBy (ksB N.1) k).length)) := (fdB_of hO3 95).symm.trans h95
    refine hz_aloadn (pc := 43) 1 (hz_dec kX12_take 27 rfl) rfl ?_
    refine hz_get (pc := 44) (v := .int (nI ((bBy (ksB N.1) k).length))) (hz_dec kX12_take 28 rfl) fo_X12_679 hO3 h8 (by omega) g95 ?_
    exact hz_iret (pc := 47) (hz_dec kX12_take 29 rfl) rfl ⟨rfl, rfl, ((hf1.S rfl).tr (hf2.S rfl)).tr (hf3.S rfl), hR3⟩
  · skip
    exact absurd hk (by omega)
