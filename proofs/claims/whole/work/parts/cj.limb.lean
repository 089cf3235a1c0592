/-! limb -/
theorem bg_w {f : Nat → Int32} {a : Nat} : ∀ n X, bg f a n = X → ∀ j, j < n → f (a + j) = nI (X / 4294967296 ^ (n - 1 - j)) := by
  intro n
  induction n with
  | zero => intro X _ j hj; exact absurd hj (Nat.not_lt_zero j)
  | succ n ih =>
    intro X hX j hj
    have u := un_lt (f (a + n))
    have hX2 : bg f a n * 4294967296 + un (f (a + n)) = X := hX
    rcases (show j = n ∨ j < n by omega) with c | c
    · rw [c, show n + 1 - 1 - n = 0 by omega, Nat.pow_zero, Nat.div_one, ← nI_un (f (a + n))]
      exact nI_md (by omega)
    · have q := ih (X / 4294967296) (by omega) j c
      rw [q, Nat.div_div_eq_div_mul, ← Nat.pow_succ', show (n - 1 - j).succ = n + 1 - 1 - j by omega]
def lmX (X i : Nat) : Int64 := lN (un (nI (X / 4294967296 ^ (7 - i))) * 4294967296 + un (nI (X / 4294967296 ^ (7 - (i + 1)))))
theorem lm8 {f : Nat → Int32} {a X i : Nat} (h : bg f a 8 = X) (hi : i + 2 ≤ 8) : lN (un (f (a + i)) * 4294967296 + un (f (a + i + 1))) = lmX X i := by
  unfold lmX
  rw [bg_w 8 X h i (by omega), Nat.add_assoc, bg_w 8 X h (i + 1) (by omega)]
theorem lm9 {f : Nat → Int32} {a X i : Nat} (h : bg f a 9 = X) (hi : i + 2 ≤ 8) : lN (un (f (a + 1 + i)) * 4294967296 + un (f (a + 1 + i + 1))) = lmX X i := by
  unfold lmX
  have e1 := bg_w 9 X h (1 + i) (by omega)
  have e2 := bg_w 9 X h (1 + i + 1) (by omega)
  rw [show 9 - 1 - (1 + i) = 7 - i by omega, ← Nat.add_assoc] at e1
  rw [show 9 - 1 - (1 + i + 1) = 7 - (i + 1) by omega, ← Nat.add_assoc, ← Nat.add_assoc] at e2
  rw [e1, e2]
set_option maxHeartbeats 4000000 in
set_option maxRecDepth 100000 in
theorem c_rlimbO {κ : hz_C} {z : Nat} {M : hz_M} {b n : Nat} {f : Nat → Int32} (hM : M b = .inl (0, n, .inl f)) (ha : 8 ≤ b) (hz : b < z) (hn : n < 2 ^ 30) {i : Nat} (hi : i + 2 ≤ n) : hz_Mt κ xX12_limbOf 0 0 0 [.ref b, .int (nI i)] z M (hz_ex (some (.long (lN (un (f i) * 4294967296 + un (f (i + 1)))))) z M) := by
  refine hz_ent (lo := [(0, .ref b), (1, .int (nI i))]) (by decide) (Nat.le_of_ble_eq_true rfl) rfl ?_
  refine hz_aloadn (pc := 0) 0 (hz_dec kX12_limbOf 0 rfl) rfl ?_
  refine hz_iloadn (pc := 1) 1 (hz_dec kX12_limbOf 1 rfl) rfl ?_
  refine hz_iald (pc := 2) (j := i) (hz_dec kX12_limbOf 2 rfl) hM ha hz rfl (by omega) (by omega) ?_
  refine hz_i2l (pc := 3) (hz_dec kX12_limbOf 3 rfl) ?_
  refine hz_bipush (pc := 4) (v := nI 32) (hz_dec kX12_limbOf 4 rfl) (by decide) ?_
  refine hz_lshl (pc := 6) (hz_dec kX12_limbOf 5 rfl) ?_
  refine hz_aloadn (pc := 7) 0 (hz_dec kX12_limbOf 6 rfl) rfl ?_
  refine hz_iloadn (pc := 8) 1 (hz_dec kX12_limbOf 7 rfl) rfl ?_
  refine hz_iconst (pc := 9) (v := nI 1) (hz_dec kX12_limbOf 8 rfl) (by decide) ?_
  refine hz_addN (pc := 10) (hz_dec kX12_limbOf 9 rfl) ?_
  refine hz_iald (pc := 11) (j := i + 1) (hz_dec kX12_limbOf 10 rfl) hM ha hz rfl (by omega) (by omega) ?_
  refine hz_i2l (pc := 12) (hz_dec kX12_limbOf 11 rfl) ?_
  refine hz_ldc2 (pc := 13) (v := (4294967295)) (hz_dec kX12_limbOf 12 rfl) ks_X12_358 ?_
  refine hz_land (pc := 16) (hz_dec kX12_limbOf 13 rfl) ?_
  refine hz_lor (pc := 17) (hz_dec kX12_limbOf 14 rfl) ?_
  exact hz_lret (pc := 18) (hz_dec kX12_limbOf 15 rfl) rfl ⟨by rw [← sh_lim_i], rfl, rfl⟩
set_option maxHeartbeats 4000000 in
set_option maxRecDepth 100000 in
theorem c_limbN {κ : hz_C} {z : Nat} {M : hz_M} {H : ho_H} (hz : 63 + 34 * (hoN H).length ≤ z) (hnn : (hoN H).length ≤ 6) (hT4 : (hoT H).length ≤ 4000) {ll : Nat} {fr kn : Int32} (hR : hcR M z H ll fr kn) {v : Int32} {k wh : Int32} (hv : v < 0 ∨ ¬ v < nI (hoN H).length) : hz_Mt κ xX11_limb 2 0 0 [.ref 8, .int v, .int k, .int wh] z M (hcP M z H (.long 0) H) := by
  refine hz_ent (lo := [(0, .ref 8), (1, .int v), (2, .int k), (3, .int wh)]) (by decide) (Nat.le_of_ble_eq_true rfl) rfl ?_
  have hH := hR.1
  have hNs := hR.2.1
  obtain ⟨hO, hQ, hD⟩ := id hR.2.2.2.2.1
  obtain ⟨g53, h53⟩ := hR.2.2.2.2.2.1
  have hJ := hR.2.2.2.1
  obtain ⟨g56, h56, hT56⟩ := hR.2.2.2.2.2.2.2.2.2.1
  have hdf := hR.2.2.2.2.2.2.2.2.2.2
  have hck : ck_k M z := hJ.2.2.2.2.2.2.2.1
  have hcs : ck_s M := hJ.2.2.2.2.2.2.2.2.1
  have hz63 : 63 ≤ z := by omega
  refine hz_aloadn (pc := 0) 0 (hz_dec kX11_limb 0 rfl) rfl ?_
  refine hz_iloadn (pc := 1) 1 (hz_dec kX11_limb 1 rfl) rfl ?_
  refine hz_xV (pc := 2) (a := 8) (As := [.int v]) (st := []) (hz_dec kX11_limb 2 rfl) co_X11_162 im_X11_nodeOf se_X11_nodeOf rfl hH (by omega) (by omega) (c_nOfN hz63 hH hnn hNs hv) rfl (by decide) ⟨Nat.le_refl _, Nat.le_refl _⟩ (Nat.le_of_ble_eq_true rfl) rfl ?_
  refine hz_astoreN (pc := 5) (i := 4) (lo2 := [(4, .null), (0, .ref 8), (1, .int v), (2, .int k), (3, .int wh)]) (hz_dec kX11_limb 3 rfl) (by decide) rfl ?_
  refine hz_aloadN (pc := 7) 0 (hz_dec kX11_limb 4 rfl) rfl ?_
  refine hz_ifnullN (pc := 9) (tgt := 49) (hz_dec kX11_limb 5 rfl) (by decide) ?_
  refine hz_lconst (pc := 49) (v := 0) (hz_dec kX11_limb 22 rfl) (by decide) ?_
  exact hz_lret (pc := 50) (hz_dec kX11_limb 23 rfl) rfl (hcP.no hR _)
set_option maxHeartbeats 4000000 in
set_option maxRecDepth 100000 in
theorem c_rlimbN {κ : hz_C} {z B : Nat} {M : hz_M} {H : ho_H} (hnn : (hoN H).length ≤ 6) (hT4 : (hoT H).length ≤ 4000) (hR : hmR M z B H) {v : Int32} {k wh : Int32} (hv : v < 0 ∨ ¬ v < nI (hoN H).length) : hz_Mt κ xX12_limb 2 0 0 [.ref B, .int v, .int k, .int wh] z M (hmP M z B (.long 0) H) := by
  refine hz_ent (lo := [(0, .ref B), (1, .int v), (2, .int k), (3, .int wh)]) (by decide) (Nat.le_of_ble_eq_true rfl) rfl ?_
  obtain ⟨hk0_, hE0, ⟨m1, m2, m3⟩, hNd, a5, a6, a7, a8⟩ := id hR
  obtain ⟨⟨fs, hO, hF⟩, -, -, h8, hz⟩ := id hk0_
  obtain ⟨x1, x3, x4, x5, x6, x7, x8⟩ := id m3
  refine hz_aloadn (pc := 0) 0 (hz_dec kX12_limb 0 rfl) rfl ?_
  refine hz_iconst (pc := 1) (v := nI 0) (hz_dec kX12_limb 1 rfl) (by decide) ?_
  refine hz_puti (pc := 2) (hz_dec kX12_limb 2 rfl) fo_X12_302 ft_X12_0 hO h8 (by omega) (by rw [hF.1]; decide) ?_
  have hf1 : mfr B [0, 89] [] M (va_up M B (.inr (12, (List.set fs 0 (.int (nI 0)))))) := (mfr.rf ⟨fs, hO, hF⟩).upO (k := 0) hO hF rfl rfl
  have hR1 : hmR (va_up M B (.inr (12, (List.set fs 0 (.int (nI 0)))))) z B H := hR.m0 hf1 hE0.upO ((fdB_of (va_up_self _ _ _) 89).trans ((List.getElem?_set_ne (by decide)).trans ((fdB_of hO 89).symm.trans x8)))
  generalize (va_up M B (.inr (12, (List.set fs 0 (.int (nI 0)))))) = M1 at *
  obtain ⟨hk1, hE1, ⟨n1, d1, q1⟩, hNd1, a51, a61, a71, a81⟩ := id hR1
  obtain ⟨⟨fs1, hO1, hF1⟩, -, -, -, -⟩ := id hk1
  refine hz_aloadn (pc := 5) 0 (hz_dec kX12_limb 3 rfl) rfl ?_
  refine hz_iloadn (pc := 6) 1 (hz_dec kX12_limb 4 rfl) rfl ?_
  refine hz_xV (pc := 7) (a := B) (As := [.int v]) (st := []) (hz_dec kX12_limb 5 rfl) co_X12_692 im_X12_stateOf se_X12_stateOf rfl hO1 h8 (by omega) (c_stN hnn hR1 hv) rfl (by decide) ⟨Nat.le_refl _, Nat.le_refl _⟩ (Nat.le_of_ble_eq_true rfl) rfl ?_
  refine hz_if_ne (pc := 10) (tgt := 37) (hz_dec kX12_limb 6 rfl) (by decide) (fun hq1 => ?_) (fun hq1 => ?_)
  · skip
    refine hz_lconst (pc := 37) (v := 0) (hz_dec kX12_limb 20 rfl) (by decide) ?_
    exact hz_lret (pc := 38) (hz_dec kX12_limb 21 rfl) rfl ⟨rfl, rfl, hf1.S rfl, hR1⟩
  · skip
    exact absurd hq1 (by decide)
set_option maxHeartbeats 4000000 in
set_option maxRecDepth 100000 in
theorem c_limbD {κ : hz_C} {z : Nat} {M : hz_M} {H : ho_H} (hz : 63 + 34 * (hoN H).length ≤ z) (hnn : (hoN H).length ≤ 6) (hT4 : (hoT H).length ≤ 4000) {ll : Nat} {fr kn : Int32} (hR : hcR M z H ll fr kn) {v : Nat} (hv : v < (hoN H).length) {N : nd_N} (hN : ndL (hoN H) v = N) {k wh : Int32} (hup : N.2.1 = false) : hz_Mt κ xX11_limb 2 0 0 [.ref 8, .int (nI v), .int k, .int wh] z M (hcP M z H (.long 0) H) := by
  refine hz_ent (lo := [(0, .ref 8), (1, .int (nI v)), (2, .int k), (3, .int wh)]) (by decide) (Nat.le_of_ble_eq_true rfl) rfl ?_
  have hH := hR.1
  have hNs := hR.2.1
  obtain ⟨hO, hQ, hD⟩ := id hR.2.2.2.2.1
  obtain ⟨g53, h53⟩ := hR.2.2.2.2.2.1
  have hJ := hR.2.2.2.1
  obtain ⟨g56, h56, hT56⟩ := hR.2.2.2.2.2.2.2.2.2.1
  have hdf := hR.2.2.2.2.2.2.2.2.2.2
  have hck : ck_k M z := hJ.2.2.2.2.2.2.2.1
  have hcs : ck_s M := hJ.2.2.2.2.2.2.2.2.1
  have hz63 : 63 ≤ z := by omega
  have hK := hR.2.2.1 v hv
  rw [hN] at hK
  obtain ⟨hn, ⟨gd, hgd, hgD⟩, hT, hC, hP, hL⟩ := id hK
  have hn : M (63 + 34 * v) = ndO (63 + 34 * v) (nI v) (nI 0) (nI (ksN N.1)) (pvI (ksF N.1)) N.2.2.1 N.2.2.2 := by rw [hup] at hn; exact hn
  refine hz_aloadn (pc := 0) 0 (hz_dec kX11_limb 0 rfl) rfl ?_
  refine hz_iloadn (pc := 1) 1 (hz_dec kX11_limb 1 rfl) rfl ?_
  refine hz_xV (pc := 2) (a := 8) (As := [.int (nI v)]) (st := []) (hz_dec kX11_limb 2 rfl) co_X11_162 im_X11_nodeOf se_X11_nodeOf rfl hH (by omega) (by omega) (c_nOf hz63 hH hnn hNs (b := v) hv) rfl (by decide) ⟨Nat.le_refl _, Nat.le_refl _⟩ (Nat.le_of_ble_eq_true rfl) rfl ?_
  refine hz_astore (pc := 5) (i := 4) (lo2 := [(4, .ref (63 + 34 * v)), (0, .ref 8), (1, .int (nI v)), (2, .int k), (3, .int wh)]) (hz_dec kX11_limb 3 rfl) (by decide) rfl ?_
  refine hz_aload (pc := 7) 0 (hz_dec kX11_limb 4 rfl) rfl ?_
  refine hz_ifnull (pc := 9) (hz_dec kX11_limb 5 rfl) ?_
  refine hz_aload (pc := 12) 0 (hz_dec kX11_limb 6 rfl) rfl ?_
  refine hz_get (pc := 14) (hz_dec kX11_limb 7 rfl) fo_X11_166 hn (by omega) (by omega) rfl ?_
  refine hz_z_eq (pc := 17) (tgt := 49) (hz_dec kX11_limb 8 rfl) (by decide) (by omega) (fun hq1 => ?_) (fun hq1 => ?_)
  · skip
    refine hz_lconst (pc := 49) (v := 0) (hz_dec kX11_limb 22 rfl) (by decide) ?_
    exact hz_lret (pc := 50) (hz_dec kX11_limb 23 rfl) rfl (hcP.no hR _)
  · skip
    exact absurd hq1 (by decide)
set_option maxHeartbeats 4000000 in
set_option maxRecDepth 100000 in
theorem c_rlimbD {κ : hz_C} {z B : Nat} {M : hz_M} {H : ho_H} (hnn : (hoN H).length ≤ 6) (hT4 : (hoT H).length ≤ 4000) (hR : hmR M z B H) {v : Nat} (hv : v < (hoN H).length) {N : nd_N} (hN : ndL (hoN H) v = N) {k wh : Int32} (hup : N.2.1 = false) : hz_Mt κ xX12_limb 2 0 0 [.ref B, .int (nI v), .int k, .int wh] z M (hmP M z B (.long 0) H) := by
  refine hz_ent (lo := [(0, .ref B), (1, .int (nI v)), (2, .int k), (3, .int wh)]) (by decide) (Nat.le_of_ble_eq_true rfl) rfl ?_
  obtain ⟨hk0_, hE0, ⟨m1, m2, m3⟩, hNd, a5, a6, a7, a8⟩ := id hR
  obtain ⟨⟨fs, hO, hF⟩, -, -, h8, hz⟩ := id hk0_
  obtain ⟨x1, x3, x4, x5, x6, x7, x8⟩ := id m3
  have eSt : stI (ndL (hoN H) v).2.1 = (-2) := by rw [hN, hup]; rfl
  refine hz_aloadn (pc := 0) 0 (hz_dec kX12_limb 0 rfl) rfl ?_
  refine hz_iconst (pc := 1) (v := nI 0) (hz_dec kX12_limb 1 rfl) (by decide) ?_
  refine hz_puti (pc := 2) (hz_dec kX12_limb 2 rfl) fo_X12_302 ft_X12_0 hO h8 (by omega) (by rw [hF.1]; decide) ?_
  have hf1 : mfr B [0, 89] [] M (va_up M B (.inr (12, (List.set fs 0 (.int (nI 0)))))) := (mfr.rf ⟨fs, hO, hF⟩).upO (k := 0) hO hF rfl rfl
  have hR1 : hmR (va_up M B (.inr (12, (List.set fs 0 (.int (nI 0)))))) z B H := hR.m0 hf1 hE0.upO ((fdB_of (va_up_self _ _ _) 89).trans ((List.getElem?_set_ne (by decide)).trans ((fdB_of hO 89).symm.trans x8)))
  generalize (va_up M B (.inr (12, (List.set fs 0 (.int (nI 0)))))) = M1 at *
  obtain ⟨hk1, hE1, ⟨n1, d1, q1⟩, hNd1, a51, a61, a71, a81⟩ := id hR1
  obtain ⟨⟨fs1, hO1, hF1⟩, -, -, -, -⟩ := id hk1
  refine hz_aloadn (pc := 5) 0 (hz_dec kX12_limb 3 rfl) rfl ?_
  refine hz_iloadn (pc := 6) 1 (hz_dec kX12_limb 4 rfl) rfl ?_
  refine hz_xV (pc := 7) (a := B) (As := [.int (nI v)]) (st := []) (hz_dec kX12_limb 5 rfl) co_X12_692 im_X12_stateOf se_X12_stateOf rfl hO1 h8 (by omega) (c_st hnn hR1 hv) rfl (by decide) ⟨Nat.le_refl _, Nat.le_refl _⟩ (Nat.le_of_ble_eq_true rfl) rfl ?_
  refine hz_eqi (pc := 10) eSt ?_
  refine hz_if_ne (pc := 10) (tgt := 37) (hz_dec kX12_limb 6 rfl) (by decide) (fun hq1 => ?_) (fun hq1 => ?_)
  · skip
    refine hz_lconst (pc := 37) (v := 0) (hz_dec kX12_limb 20 rfl) (by decide) ?_
    exact hz_lret (pc := 38) (hz_dec kX12_limb 21 rfl) rfl ⟨rfl, rfl, hf1.S rfl, hR1⟩
  · skip
    exact absurd hq1 (by decide)
set_option maxHeartbeats 4000000 in
set_option maxRecDepth 100000 in
theorem c_limbK {κ : hz_C} {z : Nat} {M : hz_M} {H : ho_H} (hz : 63 + 34 * (hoN H).length ≤ z) (hnn : (hoN H).length ≤ 6) (hT4 : (hoT H).length ≤ 4000) {ll : Nat} {fr kn : Int32} (hR : hcR M z H ll fr kn) {v : Nat} (hv : v < (hoN H).length) {N : nd_N} (hN : ndL (hoN H) v = N) {k wh : Int32} (hup : N.2.1 = true) (hI : ksI N.1) (hk : k < 0 ∨ ¬ k < nI (ksB N.1).length) : hz_Mt κ xX11_limb 2 0 0 [.ref 8, .int (nI v), .int k, .int wh] z M (hcP M z H (.long 0) H) := by
  refine hz_ent (lo := [(0, .ref 8), (1, .int (nI v)), (2, .int k), (3, .int wh)]) (by decide) (Nat.le_of_ble_eq_true rfl) rfl ?_
  have hH := hR.1
  have hNs := hR.2.1
  obtain ⟨hO, hQ, hD⟩ := id hR.2.2.2.2.1
  obtain ⟨g53, h53⟩ := hR.2.2.2.2.2.1
  have hJ := hR.2.2.2.1
  obtain ⟨g56, h56, hT56⟩ := hR.2.2.2.2.2.2.2.2.2.1
  have hdf := hR.2.2.2.2.2.2.2.2.2.2
  have hck : ck_k M z := hJ.2.2.2.2.2.2.2.1
  have hcs : ck_s M := hJ.2.2.2.2.2.2.2.2.1
  have hz63 : 63 ≤ z := by omega
  have hK := hR.2.2.1 v hv
  rw [hN] at hK
  obtain ⟨hn, ⟨gd, hgd, hgD⟩, hT, hC, hP, hL⟩ := id hK
  have hn : M (63 + 34 * v) = ndO (63 + 34 * v) (nI v) (nI 1) (nI (ksN N.1)) (pvI (ksF N.1)) N.2.2.1 N.2.2.2 := by rw [hup] at hn; exact hn
  have htO := hT.1
  have htR := hT.2.1.1
  rw [List.length_map] at htR
  obtain ⟨fb, fht, ftm, fbi, t5, t6, t7, t8, tX⟩ := id hT.2.2.2.1
  have hen : (enB (ksB N.1)).length = (ksB N.1).length := enB_len _
  refine hz_aloadn (pc := 0) 0 (hz_dec kX11_limb 0 rfl) rfl ?_
  refine hz_iloadn (pc := 1) 1 (hz_dec kX11_limb 1 rfl) rfl ?_
  refine hz_xV (pc := 2) (a := 8) (As := [.int (nI v)]) (st := []) (hz_dec kX11_limb 2 rfl) co_X11_162 im_X11_nodeOf se_X11_nodeOf rfl hH (by omega) (by omega) (c_nOf hz63 hH hnn hNs (b := v) hv) rfl (by decide) ⟨Nat.le_refl _, Nat.le_refl _⟩ (Nat.le_of_ble_eq_true rfl) rfl ?_
  refine hz_astore (pc := 5) (i := 4) (lo2 := [(4, .ref (63 + 34 * v)), (0, .ref 8), (1, .int (nI v)), (2, .int k), (3, .int wh)]) (hz_dec kX11_limb 3 rfl) (by decide) rfl ?_
  refine hz_aload (pc := 7) 0 (hz_dec kX11_limb 4 rfl) rfl ?_
  refine hz_ifnull (pc := 9) (hz_dec kX11_limb 5 rfl) ?_
  refine hz_aload (pc := 12) 0 (hz_dec kX11_limb 6 rfl) rfl ?_
  refine hz_get (pc := 14) (hz_dec kX11_limb 7 rfl) fo_X11_166 hn (by omega) (by omega) rfl ?_
  refine hz_z_eq (pc := 17) (tgt := 49) (hz_dec kX11_limb 8 rfl) (by decide) (by omega) (fun hq1 => ?_) (fun hq1 => ?_)
  · skip
    exact absurd hq1 (by decide)
  · skip
    refine hz_iloadn (pc := 20) 3 (hz_dec kX11_limb 9 rfl) rfl ?_
    refine hz_if_lt (pc := 21) (tgt := 49) (hz_dec kX11_limb 10 rfl) (by decide) (fun h3 => ?_) (fun h3 => ?_)
    · skip
      refine hz_lconst (pc := 49) (v := 0) (hz_dec kX11_limb 22 rfl) (by decide) ?_
      exact hz_lret (pc := 50) (hz_dec kX11_limb 23 rfl) rfl (hcP.no hR _)
    · skip
      refine hz_iloadn (pc := 24) 3 (hz_dec kX11_limb 11 rfl) rfl ?_
      refine hz_aload (pc := 25) 0 (hz_dec kX11_limb 12 rfl) rfl ?_
      refine hz_get (pc := 27) (hz_dec kX11_limb 13 rfl) fo_X11_104 hn (by omega) (by omega) rfl ?_
      refine hz_get (pc := 30) (hz_dec kX11_limb 14 rfl) fo_X11_217 htO (by omega) (by omega) rfl ?_
      refine hz_get (pc := 33) (hz_dec kX11_limb 15 rfl) fo_X11_220 htR (by omega) (by omega) rfl ?_
      refine hz_icmp_ge (pc := 36) (tgt := 49) (hz_dec kX11_limb 16 rfl) (by decide) (fun h4 => ?_) (fun h4 => ?_)
      · skip
        refine hz_lconst (pc := 49) (v := 0) (hz_dec kX11_limb 22 rfl) (by decide) ?_
        exact hz_lret (pc := 50) (hz_dec kX11_limb 23 rfl) rfl (hcP.no hR _)
      · skip
        exact absurd (Int32.not_le.mp h4) (hk.resolve_left h3)
set_option maxHeartbeats 4000000 in
set_option maxRecDepth 100000 in
theorem c_rlimbK {κ : hz_C} {z B : Nat} {M : hz_M} {H : ho_H} (hnn : (hoN H).length ≤ 6) (hT4 : (hoT H).length ≤ 4000) (hR : hmR M z B H) {v : Nat} (hv : v < (hoN H).length) {N : nd_N} (hN : ndL (hoN H) v = N) {k wh : Int32} (hup : N.2.1 = true) (hI : ksI N.1) (hk : k < 0 ∨ ¬ k < nI (ksB N.1).length) : hz_Mt κ xX12_limb 2 0 0 [.ref B, .int (nI v), .int k, .int wh] z M (hmP M z B (.long 0) H) := by
  refine hz_ent (lo := [(0, .ref B), (1, .int (nI v)), (2, .int k), (3, .int wh)]) (by decide) (Nat.le_of_ble_eq_true rfl) rfl ?_
  obtain ⟨hk0_, hE0, ⟨m1, m2, m3⟩, hNd, a5, a6, a7, a8⟩ := id hR
  obtain ⟨⟨fs, hO, hF⟩, -, -, h8, hz⟩ := id hk0_
  obtain ⟨x1, x3, x4, x5, x6, x7, x8⟩ := id m3
  have eSt : stI (ndL (hoN H) v).2.1 = nI 0 := by rw [hN, hup]; rfl
  refine hz_aloadn (pc := 0) 0 (hz_dec kX12_limb 0 rfl) rfl ?_
  refine hz_iconst (pc := 1) (v := nI 0) (hz_dec kX12_limb 1 rfl) (by decide) ?_
  refine hz_puti (pc := 2) (hz_dec kX12_limb 2 rfl) fo_X12_302 ft_X12_0 hO h8 (by omega) (by rw [hF.1]; decide) ?_
  have hf1 : mfr B [0, 89] [] M (va_up M B (.inr (12, (List.set fs 0 (.int (nI 0)))))) := (mfr.rf ⟨fs, hO, hF⟩).upO (k := 0) hO hF rfl rfl
  have hR1 : hmR (va_up M B (.inr (12, (List.set fs 0 (.int (nI 0)))))) z B H := hR.m0 hf1 hE0.upO ((fdB_of (va_up_self _ _ _) 89).trans ((List.getElem?_set_ne (by decide)).trans ((fdB_of hO 89).symm.trans x8)))
  generalize (va_up M B (.inr (12, (List.set fs 0 (.int (nI 0)))))) = M1 at *
  obtain ⟨hk1, hE1, ⟨n1, d1, q1⟩, hNd1, a51, a61, a71, a81⟩ := id hR1
  obtain ⟨⟨fs1, hO1, hF1⟩, -, -, -, -⟩ := id hk1
  have h0 : mdN M1 B v N := by have q := hNd1 v hv; rw [hN] at q; exact q
  have hv6 : v < 6 := by omega
  have h01 : mnS M1 B v 1 N.1 (pvI (ksF N.1)) (ksP N.1) := by have q := h0.1; rw [hup] at q; exact q
  have h02 : orX (fA M1 B) v (mkO (ksL N.1)) := by have q := h0.2.1; rw [hup] at q; exact q
  obtain ⟨p1, p2, p3, p4, ⟨p5a, p5b, p5c⟩, p6, p7, p9⟩ := id h01
  have hbp := hI.1.p hI.2.1
  obtain ⟨b1, b2, b3, b4, b5, b6, b7, b8⟩ := id hbp
  refine hz_aloadn (pc := 5) 0 (hz_dec kX12_limb 3 rfl) rfl ?_
  refine hz_iloadn (pc := 6) 1 (hz_dec kX12_limb 4 rfl) rfl ?_
  refine hz_xV (pc := 7) (a := B) (As := [.int (nI v)]) (st := []) (hz_dec kX12_limb 5 rfl) co_X12_692 im_X12_stateOf se_X12_stateOf rfl hO1 h8 (by omega) (c_st hnn hR1 hv) rfl (by decide) ⟨Nat.le_refl _, Nat.le_refl _⟩ (Nat.le_of_ble_eq_true rfl) rfl ?_
  refine hz_eqi (pc := 10) eSt ?_
  refine hz_z_ne (pc := 10) (tgt := 37) (hz_dec kX12_limb 6 rfl) (by decide) (by omega) (fun hq1 => ?_) (fun hq1 => ?_)
  · skip
    exact absurd hq1 (by decide)
  · skip
    refine hz_iloadn (pc := 13) 2 (hz_dec kX12_limb 7 rfl) rfl ?_
    refine hz_if_lt (pc := 14) (tgt := 37) (hz_dec kX12_limb 8 rfl) (by decide) (fun h3 => ?_) (fun h3 => ?_)
    · skip
      refine hz_lconst (pc := 37) (v := 0) (hz_dec kX12_limb 20 rfl) (by decide) ?_
      exact hz_lret (pc := 38) (hz_dec kX12_limb 21 rfl) rfl ⟨rfl, rfl, hf1.S rfl, hR1⟩
    · skip
      refine hz_iloadn (pc := 17) 2 (hz_dec kX12_limb 9 rfl) rfl ?_
      refine hz_aloadn (pc := 18) 0 (hz_dec kX12_limb 10 rfl) rfl ?_
      refine hz_get (pc := 19) (v := .ref (B + 20)) (hz_dec kX12_limb 11 rfl) fo_X12_71 hO1 h8 (by omega) (hF1.2 22 (by decide) (by decide)) ?_
      refine hz_iloadn (pc := 22) 1 (hz_dec kX12_limb 12 rfl) rfl ?_
      refine hz_iald (pc := 23) (j := v) (hz_dec kX12_limb 13 rfl) hE1.a20 (by omega) (by omega) rfl (by omega) (by decide) ?_
      refine hz_eqi (pc := 24) p5b.1 ?_
      refine hz_icmp_ge (pc := 24) (tgt := 37) (hz_dec kX12_limb 14 rfl) (by decide) (fun h4 => ?_) (fun h4 => ?_)
      · skip
        refine hz_lconst (pc := 37) (v := 0) (hz_dec kX12_limb 20 rfl) (by decide) ?_
        exact hz_lret (pc := 38) (hz_dec kX12_limb 21 rfl) rfl ⟨rfl, rfl, hf1.S rfl, hR1⟩
      · skip
        exact absurd (Int32.not_le.mp h4) (hk.resolve_left h3)
set_option maxHeartbeats 4000000 in
set_option maxRecDepth 100000 in
theorem c_limbW {κ : hz_C} {z : Nat} {M : hz_M} {H : ho_H} (hz : 63 + 34 * (hoN H).length ≤ z) (hnn : (hoN H).length ≤ 6) (hT4 : (hoT H).length ≤ 4000) {ll : Nat} {fr kn : Int32} (hR : hcR M z H ll fr kn) {v : Nat} (hv : v < (hoN H).length) {N : nd_N} (hN : ndL (hoN H) v = N) {k : Nat} {wh : Int32} (hup : N.2.1 = true) (hI : ksI N.1) (hk : k < (ksB N.1).length) (hw : wh < 0 ∨ ¬ wh ≤ nI 12) : hz_Mt κ xX11_limb 2 0 0 [.ref 8, .int (nI v), .int (nI k), .int wh] z M (hcP M z H (.long 0) H) := by
  refine hz_ent (lo := [(0, .ref 8), (1, .int (nI v)), (2, .int (nI k)), (3, .int wh)]) (by decide) (Nat.le_of_ble_eq_true rfl) rfl ?_
  have hH := hR.1
  have hNs := hR.2.1
  obtain ⟨hO, hQ, hD⟩ := id hR.2.2.2.2.1
  obtain ⟨g53, h53⟩ := hR.2.2.2.2.2.1
  have hJ := hR.2.2.2.1
  obtain ⟨g56, h56, hT56⟩ := hR.2.2.2.2.2.2.2.2.2.1
  have hdf := hR.2.2.2.2.2.2.2.2.2.2
  have hck : ck_k M z := hJ.2.2.2.2.2.2.2.1
  have hcs : ck_s M := hJ.2.2.2.2.2.2.2.2.1
  have hz63 : 63 ≤ z := by omega
  have hK := hR.2.2.1 v hv
  rw [hN] at hK
  obtain ⟨hn, ⟨gd, hgd, hgD⟩, hT, hC, hP, hL⟩ := id hK
  have hn : M (63 + 34 * v) = ndO (63 + 34 * v) (nI v) (nI 1) (nI (ksN N.1)) (pvI (ksF N.1)) N.2.2.1 N.2.2.2 := by rw [hup] at hn; exact hn
  have htO := hT.1
  have htR := hT.2.1.1
  rw [List.length_map] at htR
  obtain ⟨fb, fht, ftm, fbi, t5, t6, t7, t8, tX⟩ := id hT.2.2.2.1
  have hen : (enB (ksB N.1)).length = (ksB N.1).length := enB_len _
  have hb113 := hI.1.top.2.1
  refine hz_aloadn (pc := 0) 0 (hz_dec kX11_limb 0 rfl) rfl ?_
  refine hz_iloadn (pc := 1) 1 (hz_dec kX11_limb 1 rfl) rfl ?_
  refine hz_xV (pc := 2) (a := 8) (As := [.int (nI v)]) (st := []) (hz_dec kX11_limb 2 rfl) co_X11_162 im_X11_nodeOf se_X11_nodeOf rfl hH (by omega) (by omega) (c_nOf hz63 hH hnn hNs (b := v) hv) rfl (by decide) ⟨Nat.le_refl _, Nat.le_refl _⟩ (Nat.le_of_ble_eq_true rfl) rfl ?_
  refine hz_astore (pc := 5) (i := 4) (lo2 := [(4, .ref (63 + 34 * v)), (0, .ref 8), (1, .int (nI v)), (2, .int (nI k)), (3, .int wh)]) (hz_dec kX11_limb 3 rfl) (by decide) rfl ?_
  refine hz_aload (pc := 7) 0 (hz_dec kX11_limb 4 rfl) rfl ?_
  refine hz_ifnull (pc := 9) (hz_dec kX11_limb 5 rfl) ?_
  refine hz_aload (pc := 12) 0 (hz_dec kX11_limb 6 rfl) rfl ?_
  refine hz_get (pc := 14) (hz_dec kX11_limb 7 rfl) fo_X11_166 hn (by omega) (by omega) rfl ?_
  refine hz_z_eq (pc := 17) (tgt := 49) (hz_dec kX11_limb 8 rfl) (by decide) (by omega) (fun hq1 => ?_) (fun hq1 => ?_)
  · skip
    exact absurd hq1 (by decide)
  · skip
    refine hz_iloadn (pc := 20) 3 (hz_dec kX11_limb 9 rfl) rfl ?_
    refine hz_z_lt (pc := 21) (tgt := 49) (hz_dec kX11_limb 10 rfl) (by decide) (by omega) ?_
    refine hz_iloadn (pc := 24) 3 (hz_dec kX11_limb 11 rfl) rfl ?_
    refine hz_aload (pc := 25) 0 (hz_dec kX11_limb 12 rfl) rfl ?_
    refine hz_get (pc := 27) (hz_dec kX11_limb 13 rfl) fo_X11_104 hn (by omega) (by omega) rfl ?_
    refine hz_get (pc := 30) (hz_dec kX11_limb 14 rfl) fo_X11_217 htO (by omega) (by omega) rfl ?_
    refine hz_get (pc := 33) (hz_dec kX11_limb 15 rfl) fo_X11_220 htR (by omega) (by omega) rfl ?_
    refine hz_n_ge (pc := 36) (tgt := 49) (hz_dec kX11_limb 16 rfl) (by decide) (by omega) (by omega) (fun h4 => ?_) (fun h4 => ?_)
    · skip
      exact absurd hk (by omega)
    · skip
      refine hz_iloadn (pc := 39) 4 (hz_dec kX11_limb 17 rfl) rfl ?_
      refine hz_if_lt (pc := 40) (tgt := 49) (hz_dec kX11_limb 18 rfl) (by decide) (fun h5 => ?_) (fun h5 => ?_)
      · skip
        refine hz_lconst (pc := 49) (v := 0) (hz_dec kX11_limb 22 rfl) (by decide) ?_
        exact hz_lret (pc := 50) (hz_dec kX11_limb 23 rfl) rfl (hcP.no hR _)
      · skip
        refine hz_iloadn (pc := 43) 4 (hz_dec kX11_limb 19 rfl) rfl ?_
        refine hz_bipush (pc := 44) (v := nI 12) (hz_dec kX11_limb 20 rfl) (by decide) ?_
        refine hz_icmp_le (pc := 46) (tgt := 51) (hz_dec kX11_limb 21 rfl) (by decide) (fun h6 => ?_) (fun h6 => ?_)
        · skip
          exact absurd h6 (hw.resolve_left h5)
        · skip
          refine hz_lconst (pc := 49) (v := 0) (hz_dec kX11_limb 22 rfl) (by decide) ?_
          exact hz_lret (pc := 50) (hz_dec kX11_limb 23 rfl) rfl (hcP.no hR _)
set_option maxHeartbeats 4000000 in
set_option maxRecDepth 100000 in
theorem c_rlimbW {κ : hz_C} {z B : Nat} {M : hz_M} {H : ho_H} (hnn : (hoN H).length ≤ 6) (hT4 : (hoT H).length ≤ 4000) (hR : hmR M z B H) {v : Nat} (hv : v < (hoN H).length) {N : nd_N} (hN : ndL (hoN H) v = N) {k : Nat} {wh : Int32} (hup : N.2.1 = true) (hI : ksI N.1) (hk : k < (ksB N.1).length) (hw : wh < 0 ∨ ¬ wh ≤ nI 12) : hz_Mt κ xX12_limb 2 0 0 [.ref B, .int (nI v), .int (nI k), .int wh] z M (hmP M z B (.long 0) H) := by
  refine hz_ent (lo := [(0, .ref B), (1, .int (nI v)), (2, .int (nI k)), (3, .int wh)]) (by decide) (Nat.le_of_ble_eq_true rfl) rfl ?_
  obtain ⟨hk0_, hE0, ⟨m1, m2, m3⟩, hNd, a5, a6, a7, a8⟩ := id hR
  obtain ⟨⟨fs, hO, hF⟩, -, -, h8, hz⟩ := id hk0_
  obtain ⟨x1, x3, x4, x5, x6, x7, x8⟩ := id m3
  have eSt : stI (ndL (hoN H) v).2.1 = nI 0 := by rw [hN, hup]; rfl
  refine hz_aloadn (pc := 0) 0 (hz_dec kX12_limb 0 rfl) rfl ?_
  refine hz_iconst (pc := 1) (v := nI 0) (hz_dec kX12_limb 1 rfl) (by decide) ?_
  refine hz_puti (pc := 2) (hz_dec kX12_limb 2 rfl) fo_X12_302 ft_X12_0 hO h8 (by omega) (by rw [hF.1]; decide) ?_
  have hf1 : mfr B [0, 89] [] M (va_up M B (.inr (12, (List.set fs 0 (.int (nI 0)))))) := (mfr.rf ⟨fs, hO, hF⟩).upO (k := 0) hO hF rfl rfl
  have hR1 : hmR (va_up M B (.inr (12, (List.set fs 0 (.int (nI 0)))))) z B H := hR.m0 hf1 hE0.upO ((fdB_of (va_up_self _ _ _) 89).trans ((List.getElem?_set_ne (by decide)).trans ((fdB_of hO 89).symm.trans x8)))
  generalize (va_up M B (.inr (12, (List.set fs 0 (.int (nI 0)))))) = M1 at *
  obtain ⟨hk1, hE1, ⟨n1, d1, q1⟩, hNd1, a51, a61, a71, a81⟩ := id hR1
  obtain ⟨⟨fs1, hO1, hF1⟩, -, -, -, -⟩ := id hk1
  have h0 : mdN M1 B v N := by have q := hNd1 v hv; rw [hN] at q; exact q
  have hv6 : v < 6 := by omega
  have h01 : mnS M1 B v 1 N.1 (pvI (ksF N.1)) (ksP N.1) := by have q := h0.1; rw [hup] at q; exact q
  have h02 : orX (fA M1 B) v (mkO (ksL N.1)) := by have q := h0.2.1; rw [hup] at q; exact q
  obtain ⟨p1, p2, p3, p4, ⟨p5a, p5b, p5c⟩, p6, p7, p9⟩ := id h01
  have hbp := hI.1.p hI.2.1
  obtain ⟨b1, b2, b3, b4, b5, b6, b7, b8⟩ := id hbp
  refine hz_aloadn (pc := 5) 0 (hz_dec kX12_limb 3 rfl) rfl ?_
  refine hz_iloadn (pc := 6) 1 (hz_dec kX12_limb 4 rfl) rfl ?_
  refine hz_xV (pc := 7) (a := B) (As := [.int (nI v)]) (st := []) (hz_dec kX12_limb 5 rfl) co_X12_692 im_X12_stateOf se_X12_stateOf rfl hO1 h8 (by omega) (c_st hnn hR1 hv) rfl (by decide) ⟨Nat.le_refl _, Nat.le_refl _⟩ (Nat.le_of_ble_eq_true rfl) rfl ?_
  refine hz_eqi (pc := 10) eSt ?_
  refine hz_z_ne (pc := 10) (tgt := 37) (hz_dec kX12_limb 6 rfl) (by decide) (by omega) (fun hq1 => ?_) (fun hq1 => ?_)
  · skip
    exact absurd hq1 (by decide)
  · skip
    refine hz_iloadn (pc := 13) 2 (hz_dec kX12_limb 7 rfl) rfl ?_
    refine hz_z_lt (pc := 14) (tgt := 37) (hz_dec kX12_limb 8 rfl) (by decide) (by omega) ?_
    refine hz_iloadn (pc := 17) 2 (hz_dec kX12_limb 9 rfl) rfl ?_
    refine hz_aloadn (pc := 18) 0 (hz_dec kX12_limb 10 rfl) rfl ?_
    refine hz_get (pc := 19) (v := .ref (B + 20)) (hz_dec kX12_limb 11 rfl) fo_X12_71 hO1 h8 (by omega) (hF1.2 22 (by decide) (by decide)) ?_
    refine hz_iloadn (pc := 22) 1 (hz_dec kX12_limb 12 rfl) rfl ?_
    refine hz_iald (pc := 23) (j := v) (hz_dec kX12_limb 13 rfl) hE1.a20 (by omega) (by omega) rfl (by omega) (by decide) ?_
    refine hz_eqi (pc := 24) p5b.1 ?_
    refine hz_n_ge (pc := 24) (tgt := 37) (hz_dec kX12_limb 14 rfl) (by decide) (by omega) (by omega) (fun h4 => ?_) (fun h4 => ?_)
    · skip
      exact absurd hk (by omega)
    · skip
      refine hz_iloadn (pc := 27) 3 (hz_dec kX12_limb 15 rfl) rfl ?_
      refine hz_if_lt (pc := 28) (tgt := 37) (hz_dec kX12_limb 16 rfl) (by decide) (fun h5 => ?_) (fun h5 => ?_)
      · skip
        refine hz_lconst (pc := 37) (v := 0) (hz_dec kX12_limb 20 rfl) (by decide) ?_
        exact hz_lret (pc := 38) (hz_dec kX12_limb 21 rfl) rfl ⟨rfl, rfl, hf1.S rfl, hR1⟩
      · skip
        refine hz_iloadn (pc := 31) 3 (hz_dec kX12_limb 17 rfl) rfl ?_
        refine hz_bipush (pc := 32) (v := nI 12) (hz_dec kX12_limb 18 rfl) (by decide) ?_
        refine hz_icmp_le (pc := 34) (tgt := 39) (hz_dec kX12_limb 19 rfl) (by decide) (fun h6 => ?_) (fun h6 => ?_)
        · skip
          exact absurd h6 (hw.resolve_left h5)
        · skip
          refine hz_lconst (pc := 37) (v := 0) (hz_dec kX12_limb 20 rfl) (by decide) ?_
          exact hz_lret (pc := 38) (hz_dec kX12_limb 21 rfl) rfl ⟨rfl, rfl, hf1.S rfl, hR1⟩
set_option maxHeartbeats 4000000 in
set_option maxRecDepth 100000 in
theorem c_limb0 {κ : hz_C} {z : Nat} {M : hz_M} {H : ho_H} (hz : 63 + 34 * (hoN H).length ≤ z) (hnn : (hoN H).length ≤ 6) (hT4 : (hoT H).length ≤ 4000) {ll : Nat} {fr kn : Int32} (hR : hcR M z H ll fr kn) {v : Nat} (hv : v < (hoN H).length) {N : nd_N} (hN : ndL (hoN H) v = N) {k wh : Nat} (hup : N.2.1 = true) (hI : ksI N.1) (hk : k < (ksB N.1).length) (hw : wh < 4) : hz_Mt κ xX11_limb 2 0 0 [.ref 8, .int (nI v), .int (nI k), .int (nI wh)] z M (hcP M z H (.long (bn_num (lf (haS (bBy (ksB N.1) k))) (8 * wh) 8)) H) := by
  refine hz_ent (lo := [(0, .ref 8), (1, .int (nI v)), (2, .int (nI k)), (3, .int (nI wh))]) (by decide) (Nat.le_of_ble_eq_true rfl) rfl ?_
  have hH := hR.1
  have hNs := hR.2.1
  obtain ⟨hO, hQ, hD⟩ := id hR.2.2.2.2.1
  obtain ⟨g53, h53⟩ := hR.2.2.2.2.2.1
  have hJ := hR.2.2.2.1
  obtain ⟨g56, h56, hT56⟩ := hR.2.2.2.2.2.2.2.2.2.1
  have hdf := hR.2.2.2.2.2.2.2.2.2.2
  have hck : ck_k M z := hJ.2.2.2.2.2.2.2.1
  have hcs : ck_s M := hJ.2.2.2.2.2.2.2.2.1
  have hz63 : 63 ≤ z := by omega
  have hK := hR.2.2.1 v hv
  rw [hN] at hK
  obtain ⟨hn, ⟨gd, hgd, hgD⟩, hT, hC, hP, hL⟩ := id hK
  have hn : M (63 + 34 * v) = ndO (63 + 34 * v) (nI v) (nI 1) (nI (ksN N.1)) (pvI (ksF N.1)) N.2.2.1 N.2.2.2 := by rw [hup] at hn; exact hn
  have htO := hT.1
  have htR := hT.2.1.1
  rw [List.length_map] at htR
  obtain ⟨fb, fht, ftm, fbi, t5, t6, t7, t8, tX⟩ := id hT.2.2.2.1
  have hen : (enB (ksB N.1)).length = (ksB N.1).length := enB_len _
  have hb113 := hI.1.top.2.1
  have hrx := hT.2.1
  obtain ⟨fB, gB, hfB, hgB, hxB⟩ := hrx.2.2.2
  have hg1 : gB k = nI (offL ((ksB N.1).map Prod.fst) k) := hxB.1 k (by rw [List.length_map]; omega)
  have hbx : blX (ksB N.1) := hI.1.2.2.2.2.2.1
  have hbl := (hbx k hk).len
  have hoo : offL ((ksB N.1).map Prod.fst) k + (bBy (ksB N.1) k).length ≤ 12391 := by have r := offL_mono ((ksB N.1).map Prod.fst) (ksB N.1).length (k + 1) (by omega); simp only [offL] at r; rw [rowL_bl] at r; have r2 := hrx.2.2.1; rw [List.length_map] at r2; omega
  have hAk : isA fB (offL ((ksB N.1).map Prod.fst) k) (bBy (ksB N.1) k) := by have q := hxB.2 k (by rw [List.length_map]; exact hk); rw [rowL_bl] at q; exact q
  obtain ⟨fh, t4, t4x⟩ := id hT.2.2.1
  obtain ⟨fto, t9, t9x⟩ := id hT.2.2.2.2.1
  obtain ⟨wb, hw20, ⟨f21, h21⟩, hw22, hw23, hw24⟩ := id hJ.2.2.2.2.2.2.2.2.2
  have hwf : wfE (enB (ksB N.1)) := hI.1.2.2.2.2.1
  have htg := tgR_b ((hwf k (by omega)).2.2.2)
  refine hz_aloadn (pc := 0) 0 (hz_dec kX11_limb 0 rfl) rfl ?_
  refine hz_iloadn (pc := 1) 1 (hz_dec kX11_limb 1 rfl) rfl ?_
  refine hz_xV (pc := 2) (a := 8) (As := [.int (nI v)]) (st := []) (hz_dec kX11_limb 2 rfl) co_X11_162 im_X11_nodeOf se_X11_nodeOf rfl hH (by omega) (by omega) (c_nOf hz63 hH hnn hNs (b := v) hv) rfl (by decide) ⟨Nat.le_refl _, Nat.le_refl _⟩ (Nat.le_of_ble_eq_true rfl) rfl ?_
  refine hz_astore (pc := 5) (i := 4) (lo2 := [(4, .ref (63 + 34 * v)), (0, .ref 8), (1, .int (nI v)), (2, .int (nI k)), (3, .int (nI wh))]) (hz_dec kX11_limb 3 rfl) (by decide) rfl ?_
  refine hz_aload (pc := 7) 0 (hz_dec kX11_limb 4 rfl) rfl ?_
  refine hz_ifnull (pc := 9) (hz_dec kX11_limb 5 rfl) ?_
  refine hz_aload (pc := 12) 0 (hz_dec kX11_limb 6 rfl) rfl ?_
  refine hz_get (pc := 14) (hz_dec kX11_limb 7 rfl) fo_X11_166 hn (by omega) (by omega) rfl ?_
  refine hz_z_eq (pc := 17) (tgt := 49) (hz_dec kX11_limb 8 rfl) (by decide) (by omega) (fun hq1 => ?_) (fun hq1 => ?_)
  · skip
    exact absurd hq1 (by decide)
  · skip
    refine hz_iloadn (pc := 20) 3 (hz_dec kX11_limb 9 rfl) rfl ?_
    refine hz_z_lt (pc := 21) (tgt := 49) (hz_dec kX11_limb 10 rfl) (by decide) (by omega) ?_
    refine hz_iloadn (pc := 24) 3 (hz_dec kX11_limb 11 rfl) rfl ?_
    refine hz_aload (pc := 25) 0 (hz_dec kX11_limb 12 rfl) rfl ?_
    refine hz_get (pc := 27) (hz_dec kX11_limb 13 rfl) fo_X11_104 hn (by omega) (by omega) rfl ?_
    refine hz_get (pc := 30) (hz_dec kX11_limb 14 rfl) fo_X11_217 htO (by omega) (by omega) rfl ?_
    refine hz_get (pc := 33) (hz_dec kX11_limb 15 rfl) fo_X11_220 htR (by omega) (by omega) rfl ?_
    refine hz_n_ge (pc := 36) (tgt := 49) (hz_dec kX11_limb 16 rfl) (by decide) (by omega) (by omega) (fun h4 => ?_) (fun h4 => ?_)
    · skip
      exact absurd hk (by omega)
    · skip
      refine hz_iloadn (pc := 39) 4 (hz_dec kX11_limb 17 rfl) rfl ?_
      refine hz_z_lt (pc := 40) (tgt := 49) (hz_dec kX11_limb 18 rfl) (by decide) (by omega) ?_
      refine hz_iloadn (pc := 43) 4 (hz_dec kX11_limb 19 rfl) rfl ?_
      refine hz_bipush (pc := 44) (v := nI 12) (hz_dec kX11_limb 20 rfl) (by decide) ?_
      refine hz_n_le (pc := 46) (tgt := 51) (hz_dec kX11_limb 21 rfl) (by decide) (by omega) (by omega) (fun h6 => ?_) (fun h6 => ?_)
      · skip
        refine hz_aload (pc := 51) 0 (hz_dec kX11_limb 24 rfl) rfl ?_
        refine hz_get (pc := 53) (hz_dec kX11_limb 25 rfl) fo_X11_104 hn (by omega) (by omega) rfl ?_
        refine hz_astore (pc := 56) (i := 5) (lo2 := [(5, .ref (63 + 34 * v + 21)), (4, .ref (63 + 34 * v)), (0, .ref 8), (1, .int (nI v)), (2, .int (nI k)), (3, .int (nI wh))]) (hz_dec kX11_limb 26 rfl) (by decide) rfl ?_
        refine hz_iloadn (pc := 58) 5 (hz_dec kX11_limb 27 rfl) rfl ?_
        refine hz_iconst (pc := 59) (v := nI 4) (hz_dec kX11_limb 28 rfl) (by decide) ?_
        refine hz_n_ge (pc := 60) (tgt := 83) (hz_dec kX11_limb 29 rfl) (by decide) (by omega) (by omega) (fun hg2 => ?_) (fun hg2 => ?_)
        · skip
          exact absurd hw (by omega)
        · skip
          refine hz_aload (pc := 63) 0 (hz_dec kX11_limb 30 rfl) rfl ?_
          refine hz_get (pc := 65) (hz_dec kX11_limb 31 rfl) fo_X11_244 htO (by omega) (by omega) rfl ?_
          refine hz_bipush (pc := 68) (v := nI 32) (hz_dec kX11_limb 32 rfl) (by decide) ?_
          refine hz_iloadn (pc := 70) 4 (hz_dec kX11_limb 33 rfl) rfl ?_
          refine hz_mulN (pc := 71) (hz_dec kX11_limb 34 rfl) ?_
          refine hz_bipush (pc := 72) (v := nI 8) (hz_dec kX11_limb 35 rfl) (by decide) ?_
          refine hz_iloadn (pc := 74) 5 (hz_dec kX11_limb 36 rfl) rfl ?_
          refine hz_mulN (pc := 75) (hz_dec kX11_limb 37 rfl) ?_
          refine hz_addN (pc := 76) (hz_dec kX11_limb 38 rfl) ?_
          refine hz_bipush (pc := 77) (v := nI 8) (hz_dec kX11_limb 39 rfl) (by decide) ?_
          refine hz_xS (pc := 79) (As := [.ref (63 + 34 * v + 21 + 4), .int (nI ((32 * k) + (8 * wh))), .int (nI 8)]) (st := []) (hz_dec kX11_limb 40 rfl) co_X11_273 sc_X0_number (c_number (at_ := 32 * k + 8 * wh) (mn := 8) t4 (by omega) (by omega) (by decide) (by omega)) rfl (by decide) ⟨Nat.le_refl _, Nat.le_refl _⟩ (Nat.le_of_ble_eq_true rfl) rfl ?_
          refine hz_eql (pc := 82) (num_of (t4x k hk) (by rw [haS_len]; omega)) ?_
          exact hz_lret (pc := 82) (hz_dec kX11_limb 41 rfl) rfl (hcP.no hR _)
      · skip
        exact absurd hw (by omega)
set_option maxHeartbeats 4000000 in
set_option maxRecDepth 100000 in
theorem c_rlimb0 {κ : hz_C} {z B : Nat} {M : hz_M} {H : ho_H} (hnn : (hoN H).length ≤ 6) (hT4 : (hoT H).length ≤ 4000) (hR : hmR M z B H) {v : Nat} (hv : v < (hoN H).length) {N : nd_N} (hN : ndL (hoN H) v = N) {k wh : Nat} (hup : N.2.1 = true) (hI : ksI N.1) (hk : k < (ksB N.1).length) (hw : wh < 4) : hz_Mt κ xX12_limb 2 0 0 [.ref B, .int (nI v), .int (nI k), .int (nI wh)] z M (hmP M z B (.long (bn_num (lf (haS (bBy (ksB N.1) k))) (8 * wh) 8)) H) := by
  refine hz_ent (lo := [(0, .ref B), (1, .int (nI v)), (2, .int (nI k)), (3, .int (nI wh))]) (by decide) (Nat.le_of_ble_eq_true rfl) rfl ?_
  obtain ⟨hk0_, hE0, ⟨m1, m2, m3⟩, hNd, a5, a6, a7, a8⟩ := id hR
  obtain ⟨⟨fs, hO, hF⟩, -, -, h8, hz⟩ := id hk0_
  obtain ⟨x1, x3, x4, x5, x6, x7, x8⟩ := id m3
  have eSt : stI (ndL (hoN H) v).2.1 = nI 0 := by rw [hN, hup]; rfl
  refine hz_aloadn (pc := 0) 0 (hz_dec kX12_limb 0 rfl) rfl ?_
  refine hz_iconst (pc := 1) (v := nI 0) (hz_dec kX12_limb 1 rfl) (by decide) ?_
  refine hz_puti (pc := 2) (hz_dec kX12_limb 2 rfl) fo_X12_302 ft_X12_0 hO h8 (by omega) (by rw [hF.1]; decide) ?_
  have hf1 : mfr B [0, 89] [] M (va_up M B (.inr (12, (List.set fs 0 (.int (nI 0)))))) := (mfr.rf ⟨fs, hO, hF⟩).upO (k := 0) hO hF rfl rfl
  have hR1 : hmR (va_up M B (.inr (12, (List.set fs 0 (.int (nI 0)))))) z B H := hR.m0 hf1 hE0.upO ((fdB_of (va_up_self _ _ _) 89).trans ((List.getElem?_set_ne (by decide)).trans ((fdB_of hO 89).symm.trans x8)))
  generalize (va_up M B (.inr (12, (List.set fs 0 (.int (nI 0)))))) = M1 at *
  obtain ⟨hk1, hE1, ⟨n1, d1, q1⟩, hNd1, a51, a61, a71, a81⟩ := id hR1
  obtain ⟨⟨fs1, hO1, hF1⟩, -, -, -, -⟩ := id hk1
  have h0 : mdN M1 B v N := by have q := hNd1 v hv; rw [hN] at q; exact q
  have hv6 : v < 6 := by omega
  have h01 : mnS M1 B v 1 N.1 (pvI (ksF N.1)) (ksP N.1) := by have q := h0.1; rw [hup] at q; exact q
  have h02 : orX (fA M1 B) v (mkO (ksL N.1)) := by have q := h0.2.1; rw [hup] at q; exact q
  obtain ⟨p1, p2, p3, p4, ⟨p5a, p5b, p5c⟩, p6, p7, p9⟩ := id h01
  have hbp := hI.1.p hI.2.1
  obtain ⟨b1, b2, b3, b4, b5, b6, b7, b8⟩ := id hbp
  have htg := tgR_b ((b3 k (by omega)).2.2.2)
  refine hz_aloadn (pc := 5) 0 (hz_dec kX12_limb 3 rfl) rfl ?_
  refine hz_iloadn (pc := 6) 1 (hz_dec kX12_limb 4 rfl) rfl ?_
  refine hz_xV (pc := 7) (a := B) (As := [.int (nI v)]) (st := []) (hz_dec kX12_limb 5 rfl) co_X12_692 im_X12_stateOf se_X12_stateOf rfl hO1 h8 (by omega) (c_st hnn hR1 hv) rfl (by decide) ⟨Nat.le_refl _, Nat.le_refl _⟩ (Nat.le_of_ble_eq_true rfl) rfl ?_
  refine hz_eqi (pc := 10) eSt ?_
  refine hz_z_ne (pc := 10) (tgt := 37) (hz_dec kX12_limb 6 rfl) (by decide) (by omega) (fun hq1 => ?_) (fun hq1 => ?_)
  · skip
    exact absurd hq1 (by decide)
  · skip
    refine hz_iloadn (pc := 13) 2 (hz_dec kX12_limb 7 rfl) rfl ?_
    refine hz_z_lt (pc := 14) (tgt := 37) (hz_dec kX12_limb 8 rfl) (by decide) (by omega) ?_
    refine hz_iloadn (pc := 17) 2 (hz_dec kX12_limb 9 rfl) rfl ?_
    refine hz_aloadn (pc := 18) 0 (hz_dec kX12_limb 10 rfl) rfl ?_
    refine hz_get (pc := 19) (v := .ref (B + 20)) (hz_dec kX12_limb 11 rfl) fo_X12_71 hO1 h8 (by omega) (hF1.2 22 (by decide) (by decide)) ?_
    refine hz_iloadn (pc := 22) 1 (hz_dec kX12_limb 12 rfl) rfl ?_
    refine hz_iald (pc := 23) (j := v) (hz_dec kX12_limb 13 rfl) hE1.a20 (by omega) (by omega) rfl (by omega) (by decide) ?_
    refine hz_eqi (pc := 24) p5b.1 ?_
    refine hz_n_ge (pc := 24) (tgt := 37) (hz_dec kX12_limb 14 rfl) (by decide) (by omega) (by omega) (fun h4 => ?_) (fun h4 => ?_)
    · skip
      exact absurd hk (by omega)
    · skip
      refine hz_iloadn (pc := 27) 3 (hz_dec kX12_limb 15 rfl) rfl ?_
      refine hz_z_lt (pc := 28) (tgt := 37) (hz_dec kX12_limb 16 rfl) (by decide) (by omega) ?_
      refine hz_iloadn (pc := 31) 3 (hz_dec kX12_limb 17 rfl) rfl ?_
      refine hz_bipush (pc := 32) (v := nI 12) (hz_dec kX12_limb 18 rfl) (by decide) ?_
      refine hz_n_le (pc := 34) (tgt := 39) (hz_dec kX12_limb 19 rfl) (by decide) (by omega) (by omega) (fun h6 => ?_) (fun h6 => ?_)
      · skip
        refine hz_iloadn (pc := 39) 1 (hz_dec kX12_limb 22 rfl) rfl ?_
        refine hz_iloadn (pc := 40) 2 (hz_dec kX12_limb 23 rfl) rfl ?_
        refine hz_xS (pc := 41) (As := [.int (nI v), .int (nI k)]) (st := []) (hz_dec kX12_limb 24 rfl) co_X12_419 sc_X12_at0 (c_at0 (v := v) (y := k)) rfl (by decide) ⟨Nat.le_refl _, Nat.le_refl _⟩ (Nat.le_of_ble_eq_true rfl) rfl ?_
        refine hz_istore (pc := 44) (i := 4) (lo2 := [(4, .int (nI (128 * v + k))), (0, .ref B), (1, .int (nI v)), (2, .int (nI k)), (3, .int (nI wh))]) (hz_dec kX12_limb 25 rfl) (by decide) rfl ?_
        refine hz_iloadn (pc := 46) 4 (hz_dec kX12_limb 26 rfl) rfl ?_
        refine hz_iconst (pc := 47) (v := nI 4) (hz_dec kX12_limb 27 rfl) (by decide) ?_
        refine hz_n_ge (pc := 48) (tgt := 69) (hz_dec kX12_limb 28 rfl) (by decide) (by omega) (by omega) (fun hg2 => ?_) (fun hg2 => ?_)
        · skip
          exact absurd hw (by omega)
        · skip
          refine hz_aloadn (pc := 51) 1 (hz_dec kX12_limb 29 rfl) rfl ?_
          refine hz_get (pc := 52) (v := .ref (B + 30)) (hz_dec kX12_limb 30 rfl) fo_X12_101 hO1 h8 (by omega) (hF1.2 32 (by decide) (by decide)) ?_
          refine hz_bipush (pc := 55) (v := nI 32) (hz_dec kX12_limb 31 rfl) (by decide) ?_
          refine hz_iload (pc := 57) 0 (hz_dec kX12_limb 32 rfl) rfl ?_
          refine hz_mulN (pc := 59) (hz_dec kX12_limb 33 rfl) ?_
          refine hz_bipush (pc := 60) (v := nI 8) (hz_dec kX12_limb 34 rfl) (by decide) ?_
          refine hz_iloadn (pc := 62) 4 (hz_dec kX12_limb 35 rfl) rfl ?_
          refine hz_mulN (pc := 63) (hz_dec kX12_limb 36 rfl) ?_
          refine hz_addN (pc := 64) (hz_dec kX12_limb 37 rfl) ?_
          refine hz_xS (pc := 65) (As := [.ref (B + 30), .int (nI ((32 * (128 * v + k)) + (8 * wh)))]) (st := []) (hz_dec kX12_limb 38 rfl) co_X12_330 sc_X12_longAt (c_longAt (at_ := 32 * (128 * v + k) + 8 * wh) hE1.a30 (by omega) (by omega) (by decide) (by omega)) rfl (by decide) ⟨Nat.le_refl _, Nat.le_refl _⟩ (Nat.le_of_ble_eq_true rfl) rfl ?_
          refine hz_eql (pc := 68) (num_of (p5b.2.2 k hk).2.1 (by rw [haS_len]; omega)) ?_
          exact hz_lret (pc := 68) (hz_dec kX12_limb 39 rfl) rfl ⟨rfl, rfl, hf1.S rfl, hR1⟩
      · skip
        exact absurd hw (by omega)
set_option maxHeartbeats 4000000 in
set_option maxRecDepth 100000 in
theorem c_limb4 {κ : hz_C} {z : Nat} {M : hz_M} {H : ho_H} (hz : 63 + 34 * (hoN H).length ≤ z) (hnn : (hoN H).length ≤ 6) (hT4 : (hoT H).length ≤ 4000) {ll : Nat} {fr kn : Int32} (hR : hcR M z H ll fr kn) {v : Nat} (hv : v < (hoN H).length) {N : nd_N} (hN : ndL (hoN H) v = N) {k wh : Nat} (hup : N.2.1 = true) (hI : ksI N.1) (hk : k < (ksB N.1).length) (hw : 4 ≤ wh ∧ wh < 8) : hz_Mt κ xX11_limb 2 0 0 [.ref 8, .int (nI v), .int (nI k), .int (nI wh)] z M (hcP M z H (.long (lmX (bTo (ksB N.1) k) (2 * (wh - 4)))) H) := by
  refine hz_ent (lo := [(0, .ref 8), (1, .int (nI v)), (2, .int (nI k)), (3, .int (nI wh))]) (by decide) (Nat.le_of_ble_eq_true rfl) rfl ?_
  have hH := hR.1
  have hNs := hR.2.1
  obtain ⟨hO, hQ, hD⟩ := id hR.2.2.2.2.1
  obtain ⟨g53, h53⟩ := hR.2.2.2.2.2.1
  have hJ := hR.2.2.2.1
  obtain ⟨g56, h56, hT56⟩ := hR.2.2.2.2.2.2.2.2.2.1
  have hdf := hR.2.2.2.2.2.2.2.2.2.2
  have hck : ck_k M z := hJ.2.2.2.2.2.2.2.1
  have hcs : ck_s M := hJ.2.2.2.2.2.2.2.2.1
  have hz63 : 63 ≤ z := by omega
  have hK := hR.2.2.1 v hv
  rw [hN] at hK
  obtain ⟨hn, ⟨gd, hgd, hgD⟩, hT, hC, hP, hL⟩ := id hK
  have hn : M (63 + 34 * v) = ndO (63 + 34 * v) (nI v) (nI 1) (nI (ksN N.1)) (pvI (ksF N.1)) N.2.2.1 N.2.2.2 := by rw [hup] at hn; exact hn
  have htO := hT.1
  have htR := hT.2.1.1
  rw [List.length_map] at htR
  obtain ⟨fb, fht, ftm, fbi, t5, t6, t7, t8, tX⟩ := id hT.2.2.2.1
  have hen : (enB (ksB N.1)).length = (ksB N.1).length := enB_len _
  have hb113 := hI.1.top.2.1
  have hrx := hT.2.1
  obtain ⟨fB, gB, hfB, hgB, hxB⟩ := hrx.2.2.2
  have hg1 : gB k = nI (offL ((ksB N.1).map Prod.fst) k) := hxB.1 k (by rw [List.length_map]; omega)
  have hbx : blX (ksB N.1) := hI.1.2.2.2.2.2.1
  have hbl := (hbx k hk).len
  have hoo : offL ((ksB N.1).map Prod.fst) k + (bBy (ksB N.1) k).length ≤ 12391 := by have r := offL_mono ((ksB N.1).map Prod.fst) (ksB N.1).length (k + 1) (by omega); simp only [offL] at r; rw [rowL_bl] at r; have r2 := hrx.2.2.1; rw [List.length_map] at r2; omega
  have hAk : isA fB (offL ((ksB N.1).map Prod.fst) k) (bBy (ksB N.1) k) := by have q := hxB.2 k (by rw [List.length_map]; exact hk); rw [rowL_bl] at q; exact q
  obtain ⟨fh, t4, t4x⟩ := id hT.2.2.1
  obtain ⟨fto, t9, t9x⟩ := id hT.2.2.2.2.1
  obtain ⟨wb, hw20, ⟨f21, h21⟩, hw22, hw23, hw24⟩ := id hJ.2.2.2.2.2.2.2.2.2
  have hwf : wfE (enB (ksB N.1)) := hI.1.2.2.2.2.1
  have htg := tgR_b ((hwf k (by omega)).2.2.2)
  refine hz_aloadn (pc := 0) 0 (hz_dec kX11_limb 0 rfl) rfl ?_
  refine hz_iloadn (pc := 1) 1 (hz_dec kX11_limb 1 rfl) rfl ?_
  refine hz_xV (pc := 2) (a := 8) (As := [.int (nI v)]) (st := []) (hz_dec kX11_limb 2 rfl) co_X11_162 im_X11_nodeOf se_X11_nodeOf rfl hH (by omega) (by omega) (c_nOf hz63 hH hnn hNs (b := v) hv) rfl (by decide) ⟨Nat.le_refl _, Nat.le_refl _⟩ (Nat.le_of_ble_eq_true rfl) rfl ?_
  refine hz_astore (pc := 5) (i := 4) (lo2 := [(4, .ref (63 + 34 * v)), (0, .ref 8), (1, .int (nI v)), (2, .int (nI k)), (3, .int (nI wh))]) (hz_dec kX11_limb 3 rfl) (by decide) rfl ?_
  refine hz_aload (pc := 7) 0 (hz_dec kX11_limb 4 rfl) rfl ?_
  refine hz_ifnull (pc := 9) (hz_dec kX11_limb 5 rfl) ?_
  refine hz_aload (pc := 12) 0 (hz_dec kX11_limb 6 rfl) rfl ?_
  refine hz_get (pc := 14) (hz_dec kX11_limb 7 rfl) fo_X11_166 hn (by omega) (by omega) rfl ?_
  refine hz_z_eq (pc := 17) (tgt := 49) (hz_dec kX11_limb 8 rfl) (by decide) (by omega) (fun hq1 => ?_) (fun hq1 => ?_)
  · skip
    exact absurd hq1 (by decide)
  · skip
    refine hz_iloadn (pc := 20) 3 (hz_dec kX11_limb 9 rfl) rfl ?_
    refine hz_z_lt (pc := 21) (tgt := 49) (hz_dec kX11_limb 10 rfl) (by decide) (by omega) ?_
    refine hz_iloadn (pc := 24) 3 (hz_dec kX11_limb 11 rfl) rfl ?_
    refine hz_aload (pc := 25) 0 (hz_dec kX11_limb 12 rfl) rfl ?_
    refine hz_get (pc := 27) (hz_dec kX11_limb 13 rfl) fo_X11_104 hn (by omega) (by omega) rfl ?_
    refine hz_get (pc := 30) (hz_dec kX11_limb 14 rfl) fo_X11_217 htO (by omega) (by omega) rfl ?_
    refine hz_get (pc := 33) (hz_dec kX11_limb 15 rfl) fo_X11_220 htR (by omega) (by omega) rfl ?_
    refine hz_n_ge (pc := 36) (tgt := 49) (hz_dec kX11_limb 16 rfl) (by decide) (by omega) (by omega) (fun h4 => ?_) (fun h4 => ?_)
    · skip
      exact absurd hk (by omega)
    · skip
      refine hz_iloadn (pc := 39) 4 (hz_dec kX11_limb 17 rfl) rfl ?_
      refine hz_z_lt (pc := 40) (tgt := 49) (hz_dec kX11_limb 18 rfl) (by decide) (by omega) ?_
      refine hz_iloadn (pc := 43) 4 (hz_dec kX11_limb 19 rfl) rfl ?_
      refine hz_bipush (pc := 44) (v := nI 12) (hz_dec kX11_limb 20 rfl) (by decide) ?_
      refine hz_n_le (pc := 46) (tgt := 51) (hz_dec kX11_limb 21 rfl) (by decide) (by omega) (by omega) (fun h6 => ?_) (fun h6 => ?_)
      · skip
        refine hz_aload (pc := 51) 0 (hz_dec kX11_limb 24 rfl) rfl ?_
        refine hz_get (pc := 53) (hz_dec kX11_limb 25 rfl) fo_X11_104 hn (by omega) (by omega) rfl ?_
        refine hz_astore (pc := 56) (i := 5) (lo2 := [(5, .ref (63 + 34 * v + 21)), (4, .ref (63 + 34 * v)), (0, .ref 8), (1, .int (nI v)), (2, .int (nI k)), (3, .int (nI wh))]) (hz_dec kX11_limb 26 rfl) (by decide) rfl ?_
        refine hz_iloadn (pc := 58) 5 (hz_dec kX11_limb 27 rfl) rfl ?_
        refine hz_iconst (pc := 59) (v := nI 4) (hz_dec kX11_limb 28 rfl) (by decide) ?_
        refine hz_n_ge (pc := 60) (tgt := 83) (hz_dec kX11_limb 29 rfl) (by decide) (by omega) (by omega) (fun hg2 => ?_) (fun hg2 => ?_)
        · skip
          refine hz_iloadn (pc := 83) 5 (hz_dec kX11_limb 42 rfl) rfl ?_
          refine hz_bipush (pc := 84) (v := nI 8) (hz_dec kX11_limb 43 rfl) (by decide) ?_
          refine hz_n_ge (pc := 86) (tgt := 108) (hz_dec kX11_limb 44 rfl) (by decide) (by omega) (by omega) (fun hg3 => ?_) (fun hg3 => ?_)
          · skip
            exact absurd hw (by omega)
          · skip
            refine hz_aload (pc := 89) 0 (hz_dec kX11_limb 45 rfl) rfl ?_
            refine hz_get (pc := 91) (hz_dec kX11_limb 46 rfl) fo_X11_398 htO (by omega) (by omega) rfl ?_
            refine hz_bipush (pc := 94) (v := nI 8) (hz_dec kX11_limb 47 rfl) (by decide) ?_
            refine hz_iloadn (pc := 96) 4 (hz_dec kX11_limb 48 rfl) rfl ?_
            refine hz_mulN (pc := 97) (hz_dec kX11_limb 49 rfl) ?_
            refine hz_iconst (pc := 98) (v := nI 2) (hz_dec kX11_limb 50 rfl) (by decide) ?_
            refine hz_iloadn (pc := 99) 5 (hz_dec kX11_limb 51 rfl) rfl ?_
            refine hz_iconst (pc := 100) (v := nI 4) (hz_dec kX11_limb 52 rfl) (by decide) ?_
            refine hz_subN (pc := 101) (hz_dec kX11_limb 53 rfl) (by omega) ?_
            refine hz_mulN (pc := 102) (hz_dec kX11_limb 54 rfl) ?_
            refine hz_addN (pc := 103) (hz_dec kX11_limb 55 rfl) ?_
            refine hz_xS (pc := 104) (As := [.ref (63 + 34 * v + 21 + 9), .int (nI ((8 * k) + (2 * (wh - 4))))]) (st := []) (hz_dec kX11_limb 56 rfl) co_X11_401 sc_X9_limbOf (c_tlimb (i := 8 * k + 2 * (wh - 4)) t9 (by omega) (by omega) (by decide) (by omega)) rfl (by decide) ⟨Nat.le_refl _, Nat.le_refl _⟩ (Nat.le_of_ble_eq_true rfl) rfl ?_
            refine hz_eql (pc := 107) (lm8 (t9x k hk) (by omega)) ?_
            exact hz_lret (pc := 107) (hz_dec kX11_limb 57 rfl) rfl (hcP.no hR _)
        · skip
          exact absurd hw (by omega)
      · skip
        exact absurd hw (by omega)
set_option maxHeartbeats 4000000 in
set_option maxRecDepth 100000 in
theorem c_rlimb4 {κ : hz_C} {z B : Nat} {M : hz_M} {H : ho_H} (hnn : (hoN H).length ≤ 6) (hT4 : (hoT H).length ≤ 4000) (hR : hmR M z B H) {v : Nat} (hv : v < (hoN H).length) {N : nd_N} (hN : ndL (hoN H) v = N) {k wh : Nat} (hup : N.2.1 = true) (hI : ksI N.1) (hk : k < (ksB N.1).length) (hw : 4 ≤ wh ∧ wh < 8) : hz_Mt κ xX12_limb 2 0 0 [.ref B, .int (nI v), .int (nI k), .int (nI wh)] z M (hmP M z B (.long (lmX (bTo (ksB N.1) k) (2 * (wh - 4)))) H) := by
  refine hz_ent (lo := [(0, .ref B), (1, .int (nI v)), (2, .int (nI k)), (3, .int (nI wh))]) (by decide) (Nat.le_of_ble_eq_true rfl) rfl ?_
  obtain ⟨hk0_, hE0, ⟨m1, m2, m3⟩, hNd, a5, a6, a7, a8⟩ := id hR
  obtain ⟨⟨fs, hO, hF⟩, -, -, h8, hz⟩ := id hk0_
  obtain ⟨x1, x3, x4, x5, x6, x7, x8⟩ := id m3
  have eSt : stI (ndL (hoN H) v).2.1 = nI 0 := by rw [hN, hup]; rfl
  refine hz_aloadn (pc := 0) 0 (hz_dec kX12_limb 0 rfl) rfl ?_
  refine hz_iconst (pc := 1) (v := nI 0) (hz_dec kX12_limb 1 rfl) (by decide) ?_
  refine hz_puti (pc := 2) (hz_dec kX12_limb 2 rfl) fo_X12_302 ft_X12_0 hO h8 (by omega) (by rw [hF.1]; decide) ?_
  have hf1 : mfr B [0, 89] [] M (va_up M B (.inr (12, (List.set fs 0 (.int (nI 0)))))) := (mfr.rf ⟨fs, hO, hF⟩).upO (k := 0) hO hF rfl rfl
  have hR1 : hmR (va_up M B (.inr (12, (List.set fs 0 (.int (nI 0)))))) z B H := hR.m0 hf1 hE0.upO ((fdB_of (va_up_self _ _ _) 89).trans ((List.getElem?_set_ne (by decide)).trans ((fdB_of hO 89).symm.trans x8)))
  generalize (va_up M B (.inr (12, (List.set fs 0 (.int (nI 0)))))) = M1 at *
  obtain ⟨hk1, hE1, ⟨n1, d1, q1⟩, hNd1, a51, a61, a71, a81⟩ := id hR1
  obtain ⟨⟨fs1, hO1, hF1⟩, -, -, -, -⟩ := id hk1
  have h0 : mdN M1 B v N := by have q := hNd1 v hv; rw [hN] at q; exact q
  have hv6 : v < 6 := by omega
  have h01 : mnS M1 B v 1 N.1 (pvI (ksF N.1)) (ksP N.1) := by have q := h0.1; rw [hup] at q; exact q
  have h02 : orX (fA M1 B) v (mkO (ksL N.1)) := by have q := h0.2.1; rw [hup] at q; exact q
  obtain ⟨p1, p2, p3, p4, ⟨p5a, p5b, p5c⟩, p6, p7, p9⟩ := id h01
  have hbp := hI.1.p hI.2.1
  obtain ⟨b1, b2, b3, b4, b5, b6, b7, b8⟩ := id hbp
  have htg := tgR_b ((b3 k (by omega)).2.2.2)
  refine hz_aloadn (pc := 5) 0 (hz_dec kX12_limb 3 rfl) rfl ?_
  refine hz_iloadn (pc := 6) 1 (hz_dec kX12_limb 4 rfl) rfl ?_
  refine hz_xV (pc := 7) (a := B) (As := [.int (nI v)]) (st := []) (hz_dec kX12_limb 5 rfl) co_X12_692 im_X12_stateOf se_X12_stateOf rfl hO1 h8 (by omega) (c_st hnn hR1 hv) rfl (by decide) ⟨Nat.le_refl _, Nat.le_refl _⟩ (Nat.le_of_ble_eq_true rfl) rfl ?_
  refine hz_eqi (pc := 10) eSt ?_
  refine hz_z_ne (pc := 10) (tgt := 37) (hz_dec kX12_limb 6 rfl) (by decide) (by omega) (fun hq1 => ?_) (fun hq1 => ?_)
  · skip
    exact absurd hq1 (by decide)
  · skip
    refine hz_iloadn (pc := 13) 2 (hz_dec kX12_limb 7 rfl) rfl ?_
    refine hz_z_lt (pc := 14) (tgt := 37) (hz_dec kX12_limb 8 rfl) (by decide) (by omega) ?_
    refine hz_iloadn (pc := 17) 2 (hz_dec kX12_limb 9 rfl) rfl ?_
    refine hz_aloadn (pc := 18) 0 (hz_dec kX12_limb 10 rfl) rfl ?_
    refine hz_get (pc := 19) (v := .ref (B + 20)) (hz_dec kX12_limb 11 rfl) fo_X12_71 hO1 h8 (by omega) (hF1.2 22 (by decide) (by decide)) ?_
    refine hz_iloadn (pc := 22) 1 (hz_dec kX12_limb 12 rfl) rfl ?_
    refine hz_iald (pc := 23) (j := v) (hz_dec kX12_limb 13 rfl) hE1.a20 (by omega) (by omega) rfl (by omega) (by decide) ?_
    refine hz_eqi (pc := 24) p5b.1 ?_
    refine hz_n_ge (pc := 24) (tgt := 37) (hz_dec kX12_limb 14 rfl) (by decide) (by omega) (by omega) (fun h4 => ?_) (fun h4 => ?_)
    · skip
      exact absurd hk (by omega)
    · skip
      refine hz_iloadn (pc := 27) 3 (hz_dec kX12_limb 15 rfl) rfl ?_
      refine hz_z_lt (pc := 28) (tgt := 37) (hz_dec kX12_limb 16 rfl) (by decide) (by omega) ?_
      refine hz_iloadn (pc := 31) 3 (hz_dec kX12_limb 17 rfl) rfl ?_
      refine hz_bipush (pc := 32) (v := nI 12) (hz_dec kX12_limb 18 rfl) (by decide) ?_
      refine hz_n_le (pc := 34) (tgt := 39) (hz_dec kX12_limb 19 rfl) (by decide) (by omega) (by omega) (fun h6 => ?_) (fun h6 => ?_)
      · skip
        refine hz_iloadn (pc := 39) 1 (hz_dec kX12_limb 22 rfl) rfl ?_
        refine hz_iloadn (pc := 40) 2 (hz_dec kX12_limb 23 rfl) rfl ?_
        refine hz_xS (pc := 41) (As := [.int (nI v), .int (nI k)]) (st := []) (hz_dec kX12_limb 24 rfl) co_X12_419 sc_X12_at0 (c_at0 (v := v) (y := k)) rfl (by decide) ⟨Nat.le_refl _, Nat.le_refl _⟩ (Nat.le_of_ble_eq_true rfl) rfl ?_
        refine hz_istore (pc := 44) (i := 4) (lo2 := [(4, .int (nI (128 * v + k))), (0, .ref B), (1, .int (nI v)), (2, .int (nI k)), (3, .int (nI wh))]) (hz_dec kX12_limb 25 rfl) (by decide) rfl ?_
        refine hz_iloadn (pc := 46) 4 (hz_dec kX12_limb 26 rfl) rfl ?_
        refine hz_iconst (pc := 47) (v := nI 4) (hz_dec kX12_limb 27 rfl) (by decide) ?_
        refine hz_n_ge (pc := 48) (tgt := 69) (hz_dec kX12_limb 28 rfl) (by decide) (by omega) (by omega) (fun hg2 => ?_) (fun hg2 => ?_)
        · skip
          refine hz_iloadn (pc := 69) 4 (hz_dec kX12_limb 40 rfl) rfl ?_
          refine hz_bipush (pc := 70) (v := nI 8) (hz_dec kX12_limb 41 rfl) (by decide) ?_
          refine hz_n_ge (pc := 72) (tgt := 96) (hz_dec kX12_limb 42 rfl) (by decide) (by omega) (by omega) (fun hg3 => ?_) (fun hg3 => ?_)
          · skip
            exact absurd hw (by omega)
          · skip
            refine hz_aloadn (pc := 75) 1 (hz_dec kX12_limb 43 rfl) rfl ?_
            refine hz_get (pc := 76) (v := .ref (B + 31)) (hz_dec kX12_limb 44 rfl) fo_X12_104 hO1 h8 (by omega) (hF1.2 33 (by decide) (by decide)) ?_
            refine hz_bipush (pc := 79) (v := nI 9) (hz_dec kX12_limb 45 rfl) (by decide) ?_
            refine hz_iload (pc := 81) 0 (hz_dec kX12_limb 46 rfl) rfl ?_
            refine hz_mulN (pc := 83) (hz_dec kX12_limb 47 rfl) ?_
            refine hz_iconst (pc := 84) (v := nI 1) (hz_dec kX12_limb 48 rfl) (by decide) ?_
            refine hz_addN (pc := 85) (hz_dec kX12_limb 49 rfl) ?_
            refine hz_iconst (pc := 86) (v := nI 2) (hz_dec kX12_limb 50 rfl) (by decide) ?_
            refine hz_iloadn (pc := 87) 4 (hz_dec kX12_limb 51 rfl) rfl ?_
            refine hz_iconst (pc := 88) (v := nI 4) (hz_dec kX12_limb 52 rfl) (by decide) ?_
            refine hz_subN (pc := 89) (hz_dec kX12_limb 53 rfl) (by omega) ?_
            refine hz_mulN (pc := 90) (hz_dec kX12_limb 54 rfl) ?_
            refine hz_addN (pc := 91) (hz_dec kX12_limb 55 rfl) ?_
            refine hz_xS (pc := 92) (As := [.ref (B + 31), .int (nI (((9 * (128 * v + k)) + 1) + (2 * (wh - 4))))]) (st := []) (hz_dec kX12_limb 56 rfl) co_X12_724 sc_X12_limbOf (c_rlimbO (i := 9 * (128 * v + k) + 1 + 2 * (wh - 4)) hE1.a31 (by omega) (by omega) (by decide) (by omega)) rfl (by decide) ⟨Nat.le_refl _, Nat.le_refl _⟩ (Nat.le_of_ble_eq_true rfl) rfl ?_
            refine hz_eql (pc := 95) (lm9 (p5b.2.2 k hk).2.2.1 (by omega)) ?_
            exact hz_lret (pc := 95) (hz_dec kX12_limb 57 rfl) rfl ⟨rfl, rfl, hf1.S rfl, hR1⟩
        · skip
          exact absurd hw (by omega)
      · skip
        exact absurd hw (by omega)
set_option maxHeartbeats 4000000 in
set_option maxRecDepth 100000 in
theorem c_limb8 {κ : hz_C} {z : Nat} {M : hz_M} {H : ho_H} (hz : 63 + 34 * (hoN H).length ≤ z) (hnn : (hoN H).length ≤ 6) (hT4 : (hoT H).length ≤ 4000) {ll : Nat} {fr kn : Int32} (hR : hcR M z H ll fr kn) {v : Nat} (hv : v < (hoN H).length) {N : nd_N} (hN : ndL (hoN H) v = N) {k wh : Nat} (hup : N.2.1 = true) (hI : ksI N.1) (hk : k < (ksB N.1).length) (hw : 8 ≤ wh ∧ wh < 12) : hz_Mt κ xX11_limb 2 0 0 [.ref 8, .int (nI v), .int (nI k), .int (nI wh)] z M (hcP M z H (.long (lmX (tgT (eB (enB (ksB N.1)) k)) (2 * (wh - 8)))) H) := by
  refine hz_ent (lo := [(0, .ref 8), (1, .int (nI v)), (2, .int (nI k)), (3, .int (nI wh))]) (by decide) (Nat.le_of_ble_eq_true rfl) rfl ?_
  have hH := hR.1
  have hNs := hR.2.1
  obtain ⟨hO, hQ, hD⟩ := id hR.2.2.2.2.1
  obtain ⟨g53, h53⟩ := hR.2.2.2.2.2.1
  have hJ := hR.2.2.2.1
  obtain ⟨g56, h56, hT56⟩ := hR.2.2.2.2.2.2.2.2.2.1
  have hdf := hR.2.2.2.2.2.2.2.2.2.2
  have hck : ck_k M z := hJ.2.2.2.2.2.2.2.1
  have hcs : ck_s M := hJ.2.2.2.2.2.2.2.2.1
  have hz63 : 63 ≤ z := by omega
  have hK := hR.2.2.1 v hv
  rw [hN] at hK
  obtain ⟨hn, ⟨gd, hgd, hgD⟩, hT, hC, hP, hL⟩ := id hK
  have hn : M (63 + 34 * v) = ndO (63 + 34 * v) (nI v) (nI 1) (nI (ksN N.1)) (pvI (ksF N.1)) N.2.2.1 N.2.2.2 := by rw [hup] at hn; exact hn
  have htO := hT.1
  have htR := hT.2.1.1
  rw [List.length_map] at htR
  obtain ⟨fb, fht, ftm, fbi, t5, t6, t7, t8, tX⟩ := id hT.2.2.2.1
  have hen : (enB (ksB N.1)).length = (ksB N.1).length := enB_len _
  have hb113 := hI.1.top.2.1
  have hrx := hT.2.1
  obtain ⟨fB, gB, hfB, hgB, hxB⟩ := hrx.2.2.2
  have hg1 : gB k = nI (offL ((ksB N.1).map Prod.fst) k) := hxB.1 k (by rw [List.length_map]; omega)
  have hbx : blX (ksB N.1) := hI.1.2.2.2.2.2.1
  have hbl := (hbx k hk).len
  have hoo : offL ((ksB N.1).map Prod.fst) k + (bBy (ksB N.1) k).length ≤ 12391 := by have r := offL_mono ((ksB N.1).map Prod.fst) (ksB N.1).length (k + 1) (by omega); simp only [offL] at r; rw [rowL_bl] at r; have r2 := hrx.2.2.1; rw [List.length_map] at r2; omega
  have hAk : isA fB (offL ((ksB N.1).map Prod.fst) k) (bBy (ksB N.1) k) := by have q := hxB.2 k (by rw [List.length_map]; exact hk); rw [rowL_bl] at q; exact q
  obtain ⟨fh, t4, t4x⟩ := id hT.2.2.1
  obtain ⟨fto, t9, t9x⟩ := id hT.2.2.2.2.1
  obtain ⟨wb, hw20, ⟨f21, h21⟩, hw22, hw23, hw24⟩ := id hJ.2.2.2.2.2.2.2.2.2
  have hwf : wfE (enB (ksB N.1)) := hI.1.2.2.2.2.1
  have htg := tgR_b ((hwf k (by omega)).2.2.2)
  refine hz_aloadn (pc := 0) 0 (hz_dec kX11_limb 0 rfl) rfl ?_
  refine hz_iloadn (pc := 1) 1 (hz_dec kX11_limb 1 rfl) rfl ?_
  refine hz_xV (pc := 2) (a := 8) (As := [.int (nI v)]) (st := []) (hz_dec kX11_limb 2 rfl) co_X11_162 im_X11_nodeOf se_X11_nodeOf rfl hH (by omega) (by omega) (c_nOf hz63 hH hnn hNs (b := v) hv) rfl (by decide) ⟨Nat.le_refl _, Nat.le_refl _⟩ (Nat.le_of_ble_eq_true rfl) rfl ?_
  refine hz_astore (pc := 5) (i := 4) (lo2 := [(4, .ref (63 + 34 * v)), (0, .ref 8), (1, .int (nI v)), (2, .int (nI k)), (3, .int (nI wh))]) (hz_dec kX11_limb 3 rfl) (by decide) rfl ?_
  refine hz_aload (pc := 7) 0 (hz_dec kX11_limb 4 rfl) rfl ?_
  refine hz_ifnull (pc := 9) (hz_dec kX11_limb 5 rfl) ?_
  refine hz_aload (pc := 12) 0 (hz_dec kX11_limb 6 rfl) rfl ?_
  refine hz_get (pc := 14) (hz_dec kX11_limb 7 rfl) fo_X11_166 hn (by omega) (by omega) rfl ?_
  refine hz_z_eq (pc := 17) (tgt := 49) (hz_dec kX11_limb 8 rfl) (by decide) (by omega) (fun hq1 => ?_) (fun hq1 => ?_)
  · skip
    exact absurd hq1 (by decide)
  · skip
    refine hz_iloadn (pc := 20) 3 (hz_dec kX11_limb 9 rfl) rfl ?_
    refine hz_z_lt (pc := 21) (tgt := 49) (hz_dec kX11_limb 10 rfl) (by decide) (by omega) ?_
    refine hz_iloadn (pc := 24) 3 (hz_dec kX11_limb 11 rfl) rfl ?_
    refine hz_aload (pc := 25) 0 (hz_dec kX11_limb 12 rfl) rfl ?_
    refine hz_get (pc := 27) (hz_dec kX11_limb 13 rfl) fo_X11_104 hn (by omega) (by omega) rfl ?_
    refine hz_get (pc := 30) (hz_dec kX11_limb 14 rfl) fo_X11_217 htO (by omega) (by omega) rfl ?_
    refine hz_get (pc := 33) (hz_dec kX11_limb 15 rfl) fo_X11_220 htR (by omega) (by omega) rfl ?_
    refine hz_n_ge (pc := 36) (tgt := 49) (hz_dec kX11_limb 16 rfl) (by decide) (by omega) (by omega) (fun h4 => ?_) (fun h4 => ?_)
    · skip
      exact absurd hk (by omega)
    · skip
      refine hz_iloadn (pc := 39) 4 (hz_dec kX11_limb 17 rfl) rfl ?_
      refine hz_z_lt (pc := 40) (tgt := 49) (hz_dec kX11_limb 18 rfl) (by decide) (by omega) ?_
      refine hz_iloadn (pc := 43) 4 (hz_dec kX11_limb 19 rfl) rfl ?_
      refine hz_bipush (pc := 44) (v := nI 12) (hz_dec kX11_limb 20 rfl) (by decide) ?_
      refine hz_n_le (pc := 46) (tgt := 51) (hz_dec kX11_limb 21 rfl) (by decide) (by omega) (by omega) (fun h6 => ?_) (fun h6 => ?_)
      · skip
        refine hz_aload (pc := 51) 0 (hz_dec kX11_limb 24 rfl) rfl ?_
        refine hz_get (pc := 53) (hz_dec kX11_limb 25 rfl) fo_X11_104 hn (by omega) (by omega) rfl ?_
        refine hz_astore (pc := 56) (i := 5) (lo2 := [(5, .ref (63 + 34 * v + 21)), (4, .ref (63 + 34 * v)), (0, .ref 8), (1, .int (nI v)), (2, .int (nI k)), (3, .int (nI wh))]) (hz_dec kX11_limb 26 rfl) (by decide) rfl ?_
        refine hz_iloadn (pc := 58) 5 (hz_dec kX11_limb 27 rfl) rfl ?_
        refine hz_iconst (pc := 59) (v := nI 4) (hz_dec kX11_limb 28 rfl) (by decide) ?_
        refine hz_n_ge (pc := 60) (tgt := 83) (hz_dec kX11_limb 29 rfl) (by decide) (by omega) (by omega) (fun hg2 => ?_) (fun hg2 => ?_)
        · skip
          refine hz_iloadn (pc := 83) 5 (hz_dec kX11_limb 42 rfl) rfl ?_
          refine hz_bipush (pc := 84) (v := nI 8) (hz_dec kX11_limb 43 rfl) (by decide) ?_
          refine hz_n_ge (pc := 86) (tgt := 108) (hz_dec kX11_limb 44 rfl) (by decide) (by omega) (by omega) (fun hg3 => ?_) (fun hg3 => ?_)
          · skip
            refine hz_iloadn (pc := 108) 5 (hz_dec kX11_limb 58 rfl) rfl ?_
            refine hz_bipush (pc := 109) (v := nI 12) (hz_dec kX11_limb 59 rfl) (by decide) ?_
            refine hz_n_ne (pc := 111) (tgt := 141) (hz_dec kX11_limb 60 rfl) (by decide) (by omega) (by omega) (fun hg4 => ?_) (fun hg4 => ?_)
            · skip
              refine hz_aloadn (pc := 141) 2 (hz_dec kX11_limb 74 rfl) rfl ?_
              refine hz_get (pc := 142) (hz_dec kX11_limb 75 rfl) fo_X11_37 hH (by omega) (by omega) rfl ?_
              refine hz_aload (pc := 145) 0 (hz_dec kX11_limb 76 rfl) rfl ?_
              refine hz_get (pc := 147) (hz_dec kX11_limb 77 rfl) fo_X11_392 htO (by omega) (by omega) rfl ?_
              refine hz_iloadn (pc := 150) 4 (hz_dec kX11_limb 78 rfl) rfl ?_
              refine hz_iald (pc := 151) (j := k) (hz_dec kX11_limb 79 rfl) t8 (by omega) (by omega) rfl (by omega) (by decide) ?_
              refine hz_eqi (pc := 152) (tX k (by omega)).2.2.2 ?_
              refine hz_callV (pc := 152) (a := 20) (As := [.int (eB (enB (ksB N.1)) k)]) (st := []) (hz_dec kX11_limb 80 rfl) co_X11_281 im_X9_load se_X9_load rfl hw20 (by omega) (by omega) (c_load hw20 (by omega) h21 (by omega) (by omega)) rfl (by decide) ⟨Nat.le_refl _, Nat.le_refl _⟩ (Nat.le_of_ble_eq_true rfl) rfl (fun r9 z9 M2 hp9 => ?_)
              obtain ⟨rfl, rfl, f9, hb9, rfl⟩ := hp9
              have hw2 : ck_w (va_up M 21 (.inl (0, 8, .inl f9))) := by obtain ⟨f22, h22⟩ := hw22; obtain ⟨f23, h23⟩ := hw23; obtain ⟨f24, h24, h24x⟩ := hw24; exact ⟨wb, hz_mne hw20 (by decide), ⟨f9, va_up_self _ _ _⟩, ⟨f22, hz_mne h22 (by decide)⟩, ⟨f23, hz_mne h23 (by decide)⟩, ⟨f24, hz_mne h24 (by decide), h24x⟩⟩
              have hf2 : frS [(9, 39)] M (va_up M 21 (.inl (0, 8, .inl f9))) := frS.rf.upr (a := 21) (by simp only [outS, and_true]; omega)
              have hR2 : hcR (va_up M 21 (.inl (0, 8, .inl f9))) z H ll fr kn := hR.j hf2 (hJ.w (fun q q1 q2 q3 => va_up_ne _ _ (by omega)) hw2)
              have h212 : (va_up M 21 (.inl (0, 8, .inl f9))) 21 = .inl (0, 8, .inl f9) := va_up_self _ _ _
              have hH2 := hR2.1
              have hw202 : va_up M 21 (.inl (0, 8, .inl f9)) 20 = _ := hz_mne hw20 (by decide)
              refine hz_aloadn (pc := 155) 2 (hz_dec kX11_limb 81 rfl) rfl ?_
              refine hz_get (pc := 156) (hz_dec kX11_limb 82 rfl) fo_X11_37 hH2 (by omega) (by omega) rfl ?_
              refine hz_get (pc := 159) (hz_dec kX11_limb 83 rfl) fo_X11_404 hw202 (by omega) (by omega) rfl ?_
              refine hz_iconst (pc := 162) (v := nI 2) (hz_dec kX11_limb 84 rfl) (by decide) ?_
              refine hz_iloadn (pc := 163) 5 (hz_dec kX11_limb 85 rfl) rfl ?_
              refine hz_bipush (pc := 164) (v := nI 8) (hz_dec kX11_limb 86 rfl) (by decide) ?_
              refine hz_subN (pc := 166) (hz_dec kX11_limb 87 rfl) (by omega) ?_
              refine hz_mulN (pc := 167) (hz_dec kX11_limb 88 rfl) ?_
              refine hz_xS (pc := 168) (As := [.ref 21, .int (nI (2 * (wh - 8)))]) (st := []) (hz_dec kX11_limb 89 rfl) co_X11_401 sc_X9_limbOf (c_tlimb (i := 2 * (wh - 8)) h212 (by omega) (by omega) (by decide) (by omega)) rfl (by decide) ⟨Nat.le_refl _, Nat.le_refl _⟩ (Nat.le_of_ble_eq_true rfl) rfl ?_
              have e9 := lm8 (i := 2 * (wh - 8)) hb9 (by omega)
              rw [Nat.zero_add] at e9
              refine hz_eql (pc := 171) e9 ?_
              exact hz_lret (pc := 171) (hz_dec kX11_limb 90 rfl) rfl ⟨rfl, rfl, (hf2.mono (fun q (h9 : outS [(8, 63 + 34 * (hoN H).length)] q) => ⟨by have r := h9.1; omega, trivial⟩)), ll, fr, kn, hR2⟩
            · skip
              exact absurd hw (by omega)
          · skip
            exact absurd hw (by omega)
        · skip
          exact absurd hw (by omega)
      · skip
        exact absurd hw (by omega)
set_option maxHeartbeats 4000000 in
set_option maxRecDepth 100000 in
theorem c_rlimb8 {κ : hz_C} {z B : Nat} {M : hz_M} {H : ho_H} (hnn : (hoN H).length ≤ 6) (hT4 : (hoT H).length ≤ 4000) (hR : hmR M z B H) {v : Nat} (hv : v < (hoN H).length) {N : nd_N} (hN : ndL (hoN H) v = N) {k wh : Nat} (hup : N.2.1 = true) (hI : ksI N.1) (hk : k < (ksB N.1).length) (hw : 8 ≤ wh ∧ wh < 12) : hz_Mt κ xX12_limb 2 0 0 [.ref B, .int (nI v), .int (nI k), .int (nI wh)] z M (hmP M z B (.long (lmX (tgT (eB (enB (ksB N.1)) k)) (2 * (wh - 8)))) H) := by
  refine hz_ent (lo := [(0, .ref B), (1, .int (nI v)), (2, .int (nI k)), (3, .int (nI wh))]) (by decide) (Nat.le_of_ble_eq_true rfl) rfl ?_
  obtain ⟨hk0_, hE0, ⟨m1, m2, m3⟩, hNd, a5, a6, a7, a8⟩ := id hR
  obtain ⟨⟨fs, hO, hF⟩, -, -, h8, hz⟩ := id hk0_
  obtain ⟨x1, x3, x4, x5, x6, x7, x8⟩ := id m3
  have eSt : stI (ndL (hoN H) v).2.1 = nI 0 := by rw [hN, hup]; rfl
  refine hz_aloadn (pc := 0) 0 (hz_dec kX12_limb 0 rfl) rfl ?_
  refine hz_iconst (pc := 1) (v := nI 0) (hz_dec kX12_limb 1 rfl) (by decide) ?_
  refine hz_puti (pc := 2) (hz_dec kX12_limb 2 rfl) fo_X12_302 ft_X12_0 hO h8 (by omega) (by rw [hF.1]; decide) ?_
  have hf1 : mfr B [0, 89] [] M (va_up M B (.inr (12, (List.set fs 0 (.int (nI 0)))))) := (mfr.rf ⟨fs, hO, hF⟩).upO (k := 0) hO hF rfl rfl
  have hR1 : hmR (va_up M B (.inr (12, (List.set fs 0 (.int (nI 0)))))) z B H := hR.m0 hf1 hE0.upO ((fdB_of (va_up_self _ _ _) 89).trans ((List.getElem?_set_ne (by decide)).trans ((fdB_of hO 89).symm.trans x8)))
  generalize (va_up M B (.inr (12, (List.set fs 0 (.int (nI 0)))))) = M1 at *
  obtain ⟨hk1, hE1, ⟨n1, d1, q1⟩, hNd1, a51, a61, a71, a81⟩ := id hR1
  obtain ⟨⟨fs1, hO1, hF1⟩, -, -, -, -⟩ := id hk1
  have h0 : mdN M1 B v N := by have q := hNd1 v hv; rw [hN] at q; exact q
  have hv6 : v < 6 := by omega
  have h01 : mnS M1 B v 1 N.1 (pvI (ksF N.1)) (ksP N.1) := by have q := h0.1; rw [hup] at q; exact q
  have h02 : orX (fA M1 B) v (mkO (ksL N.1)) := by have q := h0.2.1; rw [hup] at q; exact q
  obtain ⟨p1, p2, p3, p4, ⟨p5a, p5b, p5c⟩, p6, p7, p9⟩ := id h01
  have hbp := hI.1.p hI.2.1
  obtain ⟨b1, b2, b3, b4, b5, b6, b7, b8⟩ := id hbp
  have htg := tgR_b ((b3 k (by omega)).2.2.2)
  refine hz_aloadn (pc := 5) 0 (hz_dec kX12_limb 3 rfl) rfl ?_
  refine hz_iloadn (pc := 6) 1 (hz_dec kX12_limb 4 rfl) rfl ?_
  refine hz_xV (pc := 7) (a := B) (As := [.int (nI v)]) (st := []) (hz_dec kX12_limb 5 rfl) co_X12_692 im_X12_stateOf se_X12_stateOf rfl hO1 h8 (by omega) (c_st hnn hR1 hv) rfl (by decide) ⟨Nat.le_refl _, Nat.le_refl _⟩ (Nat.le_of_ble_eq_true rfl) rfl ?_
  refine hz_eqi (pc := 10) eSt ?_
  refine hz_z_ne (pc := 10) (tgt := 37) (hz_dec kX12_limb 6 rfl) (by decide) (by omega) (fun hq1 => ?_) (fun hq1 => ?_)
  · skip
    exact absurd hq1 (by decide)
  · skip
    refine hz_iloadn (pc := 13) 2 (hz_dec kX12_limb 7 rfl) rfl ?_
    refine hz_z_lt (pc := 14) (tgt := 37) (hz_dec kX12_limb 8 rfl) (by decide) (by omega) ?_
    refine hz_iloadn (pc := 17) 2 (hz_dec kX12_limb 9 rfl) rfl ?_
    refine hz_aloadn (pc := 18) 0 (hz_dec kX12_limb 10 rfl) rfl ?_
    refine hz_get (pc := 19) (v := .ref (B + 20)) (hz_dec kX12_limb 11 rfl) fo_X12_71 hO1 h8 (by omega) (hF1.2 22 (by decide) (by decide)) ?_
    refine hz_iloadn (pc := 22) 1 (hz_dec kX12_limb 12 rfl) rfl ?_
    refine hz_iald (pc := 23) (j := v) (hz_dec kX12_limb 13 rfl) hE1.a20 (by omega) (by omega) rfl (by omega) (by decide) ?_
    refine hz_eqi (pc := 24) p5b.1 ?_
    refine hz_n_ge (pc := 24) (tgt := 37) (hz_dec kX12_limb 14 rfl) (by decide) (by omega) (by omega) (fun h4 => ?_) (fun h4 => ?_)
    · skip
      exact absurd hk (by omega)
    · skip
      refine hz_iloadn (pc := 27) 3 (hz_dec kX12_limb 15 rfl) rfl ?_
      refine hz_z_lt (pc := 28) (tgt := 37) (hz_dec kX12_limb 16 rfl) (by decide) (by omega) ?_
      refine hz_iloadn (pc := 31) 3 (hz_dec kX12_limb 17 rfl) rfl ?_
      refine hz_bipush (pc := 32) (v := nI 12) (hz_dec kX12_limb 18 rfl) (by decide) ?_
      refine hz_n_le (pc := 34) (tgt := 39) (hz_dec kX12_limb 19 rfl) (by decide) (by omega) (by omega) (fun h6 => ?_) (fun h6 => ?_)
      · skip
        refine hz_iloadn (pc := 39) 1 (hz_dec kX12_limb 22 rfl) rfl ?_
        refine hz_iloadn (pc := 40) 2 (hz_dec kX12_limb 23 rfl) rfl ?_
        refine hz_xS (pc := 41) (As := [.int (nI v), .int (nI k)]) (st := []) (hz_dec kX12_limb 24 rfl) co_X12_419 sc_X12_at0 (c_at0 (v := v) (y := k)) rfl (by decide) ⟨Nat.le_refl _, Nat.le_refl _⟩ (Nat.le_of_ble_eq_true rfl) rfl ?_
        refine hz_istore (pc := 44) (i := 4) (lo2 := [(4, .int (nI (128 * v + k))), (0, .ref B), (1, .int (nI v)), (2, .int (nI k)), (3, .int (nI wh))]) (hz_dec kX12_limb 25 rfl) (by decide) rfl ?_
        refine hz_iloadn (pc := 46) 4 (hz_dec kX12_limb 26 rfl) rfl ?_
        refine hz_iconst (pc := 47) (v := nI 4) (hz_dec kX12_limb 27 rfl) (by decide) ?_
        refine hz_n_ge (pc := 48) (tgt := 69) (hz_dec kX12_limb 28 rfl) (by decide) (by omega) (by omega) (fun hg2 => ?_) (fun hg2 => ?_)
        · skip
          refine hz_iloadn (pc := 69) 4 (hz_dec kX12_limb 40 rfl) rfl ?_
          refine hz_bipush (pc := 70) (v := nI 8) (hz_dec kX12_limb 41 rfl) (by decide) ?_
          refine hz_n_ge (pc := 72) (tgt := 96) (hz_dec kX12_limb 42 rfl) (by decide) (by omega) (by omega) (fun hg3 => ?_) (fun hg3 => ?_)
          · skip
            refine hz_iloadn (pc := 96) 4 (hz_dec kX12_limb 58 rfl) rfl ?_
            refine hz_bipush (pc := 97) (v := nI 12) (hz_dec kX12_limb 59 rfl) (by decide) ?_
            refine hz_n_ge (pc := 99) (tgt := 132) (hz_dec kX12_limb 60 rfl) (by decide) (by omega) (by omega) (fun hg4 => ?_) (fun hg4 => ?_)
            · skip
              exact absurd hw (by omega)
            · skip
              refine hz_aloadn (pc := 102) 1 (hz_dec kX12_limb 61 rfl) rfl ?_
              refine hz_get (pc := 103) (v := .ref (B + 29)) (hz_dec kX12_limb 62 rfl) fo_X12_98 hO1 h8 (by omega) (hF1.2 31 (by decide) (by decide)) ?_
              refine hz_iload (pc := 106) 0 (hz_dec kX12_limb 63 rfl) rfl ?_
              refine hz_iald (pc := 108) (j := 128 * v + k) (hz_dec kX12_limb 64 rfl) hE1.a29 (by omega) (by omega) rfl (by omega) (by decide) ?_
              refine hz_eqi (pc := 109) ((p5a k (by omega)).1 hk).2.2.2 ?_
              refine hz_aloadn (pc := 109) 1 (hz_dec kX12_limb 65 rfl) rfl ?_
              refine hz_get (pc := 110) (v := .ref (B + 10)) (hz_dec kX12_limb 66 rfl) fo_X12_39 hO1 h8 (by omega) (hF1.2 11 (by decide) (by decide)) ?_
              refine hz_callS (pc := 113) (As := [.int (eB (enB (ksB N.1)) k), .ref (B + 10)]) (st := []) (hz_dec kX12_limb 67 rfl) co_X12_367 sc_X12_layTarget (c_layT hE1.a10 (by omega) (by omega) (by omega) (by omega)) rfl (by decide) ⟨Nat.le_refl _, Nat.le_refl _⟩ (Nat.le_of_ble_eq_true rfl) rfl (fun r9 z9 M2 hp9 => ?_)
              obtain ⟨rfl, rfl, f9, hb9, rfl⟩ := hp9
              have hm2 : mfr B [] [10] M1 (va_up M1 (B + 10) (.inl (0, 9, .inl f9))) := (mfr.rf hk1.1).upA rfl (by decide)
              have hR2 : hmR (va_up M1 (B + 10) (.inl (0, 9, .inl f9))) z B H := hR1.sc hm2 (hE1.upA (by decide)) rfl rfl rfl rfl rfl rfl rfl rfl rfl rfl rfl rfl rfl rfl rfl rfl rfl rfl rfl
              have h102 : (va_up M1 (B + 10) (.inl (0, 9, .inl f9))) (B + 10) = .inl (0, 9, .inl f9) := va_up_self _ _ _
              obtain ⟨fs2, hO2, hF2⟩ := id hm2.2.1
              refine hz_aloadn (pc := 116) 1 (hz_dec kX12_limb 68 rfl) rfl ?_
              refine hz_get (pc := 117) (v := .ref (B + 10)) (hz_dec kX12_limb 69 rfl) fo_X12_39 hO2 h8 (by omega) (hF2.2 11 (by decide) (by decide)) ?_
              refine hz_iconst (pc := 120) (v := nI 1) (hz_dec kX12_limb 70 rfl) (by decide) ?_
              refine hz_iconst (pc := 121) (v := nI 2) (hz_dec kX12_limb 71 rfl) (by decide) ?_
              refine hz_iloadn (pc := 122) 4 (hz_dec kX12_limb 72 rfl) rfl ?_
              refine hz_bipush (pc := 123) (v := nI 8) (hz_dec kX12_limb 73 rfl) (by decide) ?_
              refine hz_subN (pc := 125) (hz_dec kX12_limb 74 rfl) (by omega) ?_
              refine hz_mulN (pc := 126) (hz_dec kX12_limb 75 rfl) ?_
              refine hz_addN (pc := 127) (hz_dec kX12_limb 76 rfl) ?_
              refine hz_xS (pc := 128) (As := [.ref (B + 10), .int (nI (1 + (2 * (wh - 8))))]) (st := []) (hz_dec kX12_limb 77 rfl) co_X12_724 sc_X12_limbOf (c_rlimbO (i := 1 + 2 * (wh - 8)) h102 (by omega) (by omega) (by decide) (by omega)) rfl (by decide) ⟨Nat.le_refl _, Nat.le_refl _⟩ (Nat.le_of_ble_eq_true rfl) rfl ?_
              have e9 := lm9 (i := 2 * (wh - 8)) hb9 (by omega)
              rw [Nat.zero_add] at e9
              refine hz_eql (pc := 131) e9 ?_
              exact hz_lret (pc := 131) (hz_dec kX12_limb 78 rfl) rfl ⟨rfl, rfl, (hf1.S rfl).tr (hm2.S rfl), hR2⟩
          · skip
            exact absurd hw (by omega)
        · skip
          exact absurd hw (by omega)
      · skip
        exact absurd hw (by omega)
set_option maxHeartbeats 4000000 in
set_option maxRecDepth 100000 in
theorem c_limb12 {κ : hz_C} {z : Nat} {M : hz_M} {H : ho_H} (hz : 63 + 34 * (hoN H).length ≤ z) (hnn : (hoN H).length ≤ 6) (hT4 : (hoT H).length ≤ 4000) {ll : Nat} {fr kn : Int32} (hR : hcR M z H ll fr kn) {v : Nat} (hv : v < (hoN H).length) {N : nd_N} (hN : ndL (hoN H) v = N) {k wh : Nat} (hup : N.2.1 = true) (hI : ksI N.1) (hk : k < (ksB N.1).length) (hw : wh = 12) : hz_Mt κ xX11_limb 2 0 0 [.ref 8, .int (nI v), .int (nI k), .int (nI wh)] z M (hcP M z H (.long (bn_num (lf (bBy (ksB N.1) k)) 72 8)) H) := by
  refine hz_ent (lo := [(0, .ref 8), (1, .int (nI v)), (2, .int (nI k)), (3, .int (nI wh))]) (by decide) (Nat.le_of_ble_eq_true rfl) rfl ?_
  have hH := hR.1
  have hNs := hR.2.1
  obtain ⟨hO, hQ, hD⟩ := id hR.2.2.2.2.1
  obtain ⟨g53, h53⟩ := hR.2.2.2.2.2.1
  have hJ := hR.2.2.2.1
  obtain ⟨g56, h56, hT56⟩ := hR.2.2.2.2.2.2.2.2.2.1
  have hdf := hR.2.2.2.2.2.2.2.2.2.2
  have hck : ck_k M z := hJ.2.2.2.2.2.2.2.1
  have hcs : ck_s M := hJ.2.2.2.2.2.2.2.2.1
  have hz63 : 63 ≤ z := by omega
  have hK := hR.2.2.1 v hv
  rw [hN] at hK
  obtain ⟨hn, ⟨gd, hgd, hgD⟩, hT, hC, hP, hL⟩ := id hK
  have hn : M (63 + 34 * v) = ndO (63 + 34 * v) (nI v) (nI 1) (nI (ksN N.1)) (pvI (ksF N.1)) N.2.2.1 N.2.2.2 := by rw [hup] at hn; exact hn
  have htO := hT.1
  have htR := hT.2.1.1
  rw [List.length_map] at htR
  obtain ⟨fb, fht, ftm, fbi, t5, t6, t7, t8, tX⟩ := id hT.2.2.2.1
  have hen : (enB (ksB N.1)).length = (ksB N.1).length := enB_len _
  have hb113 := hI.1.top.2.1
  have hrx := hT.2.1
  obtain ⟨fB, gB, hfB, hgB, hxB⟩ := hrx.2.2.2
  have hg1 : gB k = nI (offL ((ksB N.1).map Prod.fst) k) := hxB.1 k (by rw [List.length_map]; omega)
  have hbx : blX (ksB N.1) := hI.1.2.2.2.2.2.1
  have hbl := (hbx k hk).len
  have hoo : offL ((ksB N.1).map Prod.fst) k + (bBy (ksB N.1) k).length ≤ 12391 := by have r := offL_mono ((ksB N.1).map Prod.fst) (ksB N.1).length (k + 1) (by omega); simp only [offL] at r; rw [rowL_bl] at r; have r2 := hrx.2.2.1; rw [List.length_map] at r2; omega
  have hAk : isA fB (offL ((ksB N.1).map Prod.fst) k) (bBy (ksB N.1) k) := by have q := hxB.2 k (by rw [List.length_map]; exact hk); rw [rowL_bl] at q; exact q
  obtain ⟨fh, t4, t4x⟩ := id hT.2.2.1
  obtain ⟨fto, t9, t9x⟩ := id hT.2.2.2.2.1
  obtain ⟨wb, hw20, ⟨f21, h21⟩, hw22, hw23, hw24⟩ := id hJ.2.2.2.2.2.2.2.2.2
  have hwf : wfE (enB (ksB N.1)) := hI.1.2.2.2.2.1
  have htg := tgR_b ((hwf k (by omega)).2.2.2)
  refine hz_aloadn (pc := 0) 0 (hz_dec kX11_limb 0 rfl) rfl ?_
  refine hz_iloadn (pc := 1) 1 (hz_dec kX11_limb 1 rfl) rfl ?_
  refine hz_xV (pc := 2) (a := 8) (As := [.int (nI v)]) (st := []) (hz_dec kX11_limb 2 rfl) co_X11_162 im_X11_nodeOf se_X11_nodeOf rfl hH (by omega) (by omega) (c_nOf hz63 hH hnn hNs (b := v) hv) rfl (by decide) ⟨Nat.le_refl _, Nat.le_refl _⟩ (Nat.le_of_ble_eq_true rfl) rfl ?_
  refine hz_astore (pc := 5) (i := 4) (lo2 := [(4, .ref (63 + 34 * v)), (0, .ref 8), (1, .int (nI v)), (2, .int (nI k)), (3, .int (nI wh))]) (hz_dec kX11_limb 3 rfl) (by decide) rfl ?_
  refine hz_aload (pc := 7) 0 (hz_dec kX11_limb 4 rfl) rfl ?_
  refine hz_ifnull (pc := 9) (hz_dec kX11_limb 5 rfl) ?_
  refine hz_aload (pc := 12) 0 (hz_dec kX11_limb 6 rfl) rfl ?_
  refine hz_get (pc := 14) (hz_dec kX11_limb 7 rfl) fo_X11_166 hn (by omega) (by omega) rfl ?_
  refine hz_z_eq (pc := 17) (tgt := 49) (hz_dec kX11_limb 8 rfl) (by decide) (by omega) (fun hq1 => ?_) (fun hq1 => ?_)
  · skip
    exact absurd hq1 (by decide)
  · skip
    refine hz_iloadn (pc := 20) 3 (hz_dec kX11_limb 9 rfl) rfl ?_
    refine hz_z_lt (pc := 21) (tgt := 49) (hz_dec kX11_limb 10 rfl) (by decide) (by omega) ?_
    refine hz_iloadn (pc := 24) 3 (hz_dec kX11_limb 11 rfl) rfl ?_
    refine hz_aload (pc := 25) 0 (hz_dec kX11_limb 12 rfl) rfl ?_
    refine hz_get (pc := 27) (hz_dec kX11_limb 13 rfl) fo_X11_104 hn (by omega) (by omega) rfl ?_
    refine hz_get (pc := 30) (hz_dec kX11_limb 14 rfl) fo_X11_217 htO (by omega) (by omega) rfl ?_
    refine hz_get (pc := 33) (hz_dec kX11_limb 15 rfl) fo_X11_220 htR (by omega) (by omega) rfl ?_
    refine hz_n_ge (pc := 36) (tgt := 49) (hz_dec kX11_limb 16 rfl) (by decide) (by omega) (by omega) (fun h4 => ?_) (fun h4 => ?_)
    · skip
      exact absurd hk (by omega)
    · skip
      refine hz_iloadn (pc := 39) 4 (hz_dec kX11_limb 17 rfl) rfl ?_
      refine hz_z_lt (pc := 40) (tgt := 49) (hz_dec kX11_limb 18 rfl) (by decide) (by omega) ?_
      refine hz_iloadn (pc := 43) 4 (hz_dec kX11_limb 19 rfl) rfl ?_
      refine hz_bipush (pc := 44) (v := nI 12) (hz_dec kX11_limb 20 rfl) (by decide) ?_
      refine hz_n_le (pc := 46) (tgt := 51) (hz_dec kX11_limb 21 rfl) (by decide) (by omega) (by omega) (fun h6 => ?_) (fun h6 => ?_)
      · skip
        refine hz_aload (pc := 51) 0 (hz_dec kX11_limb 24 rfl) rfl ?_
        refine hz_get (pc := 53) (hz_dec kX11_limb 25 rfl) fo_X11_104 hn (by omega) (by omega) rfl ?_
        refine hz_astore (pc := 56) (i := 5) (lo2 := [(5, .ref (63 + 34 * v + 21)), (4, .ref (63 + 34 * v)), (0, .ref 8), (1, .int (nI v)), (2, .int (nI k)), (3, .int (nI wh))]) (hz_dec kX11_limb 26 rfl) (by decide) rfl ?_
        refine hz_iloadn (pc := 58) 5 (hz_dec kX11_limb 27 rfl) rfl ?_
        refine hz_iconst (pc := 59) (v := nI 4) (hz_dec kX11_limb 28 rfl) (by decide) ?_
        refine hz_n_ge (pc := 60) (tgt := 83) (hz_dec kX11_limb 29 rfl) (by decide) (by omega) (by omega) (fun hg2 => ?_) (fun hg2 => ?_)
        · skip
          refine hz_iloadn (pc := 83) 5 (hz_dec kX11_limb 42 rfl) rfl ?_
          refine hz_bipush (pc := 84) (v := nI 8) (hz_dec kX11_limb 43 rfl) (by decide) ?_
          refine hz_n_ge (pc := 86) (tgt := 108) (hz_dec kX11_limb 44 rfl) (by decide) (by omega) (by omega) (fun hg3 => ?_) (fun hg3 => ?_)
          · skip
            refine hz_iloadn (pc := 108) 5 (hz_dec kX11_limb 58 rfl) rfl ?_
            refine hz_bipush (pc := 109) (v := nI 12) (hz_dec kX11_limb 59 rfl) (by decide) ?_
            refine hz_n_ne (pc := 111) (tgt := 141) (hz_dec kX11_limb 60 rfl) (by decide) (by omega) (by omega) (fun hg4 => ?_) (fun hg4 => ?_)
            · skip
              exact absurd hw (by omega)
            · skip
              refine hz_aload (pc := 114) 0 (hz_dec kX11_limb 61 rfl) rfl ?_
              refine hz_get (pc := 116) (hz_dec kX11_limb 62 rfl) fo_X11_217 htO (by omega) (by omega) rfl ?_
              refine hz_get (pc := 119) (hz_dec kX11_limb 63 rfl) fo_X11_225 htR (by omega) (by omega) rfl ?_
              refine hz_aload (pc := 122) 0 (hz_dec kX11_limb 64 rfl) rfl ?_
              refine hz_get (pc := 124) (hz_dec kX11_limb 65 rfl) fo_X11_217 htO (by omega) (by omega) rfl ?_
              refine hz_get (pc := 127) (hz_dec kX11_limb 66 rfl) fo_X11_228 htR (by omega) (by omega) rfl ?_
              refine hz_iloadn (pc := 130) 4 (hz_dec kX11_limb 67 rfl) rfl ?_
              refine hz_iald (pc := 131) (j := k) (hz_dec kX11_limb 68 rfl) hgB (by omega) (by omega) rfl (by omega) (by decide) ?_
              refine hz_eqi (pc := 132) hg1 ?_
              refine hz_bipush (pc := 132) (v := nI 72) (hz_dec kX11_limb 69 rfl) (by decide) ?_
              refine hz_addN (pc := 134) (hz_dec kX11_limb 70 rfl) ?_
              refine hz_bipush (pc := 135) (v := nI 8) (hz_dec kX11_limb 71 rfl) (by decide) ?_
              refine hz_xS (pc := 137) (As := [.ref (63 + 34 * v + 21 + 1 + 1), .int (nI ((offL ((ksB N.1).map Prod.fst) k) + 72)), .int (nI 8)]) (st := []) (hz_dec kX11_limb 72 rfl) co_X11_273 sc_X0_number (c_number (at_ := offL ((ksB N.1).map Prod.fst) k + 72) (mn := 8) hfB (by omega) (by omega) (by decide) (by omega)) rfl (by decide) ⟨Nat.le_refl _, Nat.le_refl _⟩ (Nat.le_of_ble_eq_true rfl) rfl ?_
              refine hz_eql (pc := 140) (num_of hAk (by omega)) ?_
              exact hz_lret (pc := 140) (hz_dec kX11_limb 73 rfl) rfl (hcP.no hR _)
          · skip
            exact absurd hw (by omega)
        · skip
          exact absurd hw (by omega)
      · skip
        exact absurd hw (by omega)
set_option maxHeartbeats 4000000 in
set_option maxRecDepth 100000 in
theorem c_rlimb12 {κ : hz_C} {z B : Nat} {M : hz_M} {H : ho_H} (hnn : (hoN H).length ≤ 6) (hT4 : (hoT H).length ≤ 4000) (hR : hmR M z B H) {v : Nat} (hv : v < (hoN H).length) {N : nd_N} (hN : ndL (hoN H) v = N) {k wh : Nat} (hup : N.2.1 = true) (hI : ksI N.1) (hk : k < (ksB N.1).length) (hw : wh = 12) : hz_Mt κ xX12_limb 2 0 0 [.ref B, .int (nI v), .int (nI k), .int (nI wh)] z M (hmP M z B (.long (bn_num (lf (bBy (ksB N.1) k)) 72 8)) H) := by
  refine hz_ent (lo := [(0, .ref B), (1, .int (nI v)), (2, .int (nI k)), (3, .int (nI wh))]) (by decide) (Nat.le_of_ble_eq_true rfl) rfl ?_
  obtain ⟨hk0_, hE0, ⟨m1, m2, m3⟩, hNd, a5, a6, a7, a8⟩ := id hR
  obtain ⟨⟨fs, hO, hF⟩, -, -, h8, hz⟩ := id hk0_
  obtain ⟨x1, x3, x4, x5, x6, x7, x8⟩ := id m3
  have eSt : stI (ndL (hoN H) v).2.1 = nI 0 := by rw [hN, hup]; rfl
  refine hz_aloadn (pc := 0) 0 (hz_dec kX12_limb 0 rfl) rfl ?_
  refine hz_iconst (pc := 1) (v := nI 0) (hz_dec kX12_limb 1 rfl) (by decide) ?_
  refine hz_puti (pc := 2) (hz_dec kX12_limb 2 rfl) fo_X12_302 ft_X12_0 hO h8 (by omega) (by rw [hF.1]; decide) ?_
  have hf1 : mfr B [0, 89] [] M (va_up M B (.inr (12, (List.set fs 0 (.int (nI 0)))))) := (mfr.rf ⟨fs, hO, hF⟩).upO (k := 0) hO hF rfl rfl
  have hR1 : hmR (va_up M B (.inr (12, (List.set fs 0 (.int (nI 0)))))) z B H := hR.m0 hf1 hE0.upO ((fdB_of (va_up_self _ _ _) 89).trans ((List.getElem?_set_ne (by decide)).trans ((fdB_of hO 89).symm.trans x8)))
  generalize (va_up M B (.inr (12, (List.set fs 0 (.int (nI 0)))))) = M1 at *
  obtain ⟨hk1, hE1, ⟨n1, d1, q1⟩, hNd1, a51, a61, a71, a81⟩ := id hR1
  obtain ⟨⟨fs1, hO1, hF1⟩, -, -, -, -⟩ := id hk1
  have h0 : mdN M1 B v N := by have q := hNd1 v hv; rw [hN] at q; exact q
  have hv6 : v < 6 := by omega
  have h01 : mnS M1 B v 1 N.1 (pvI (ksF N.1)) (ksP N.1) := by have q := h0.1; rw [hup] at q; exact q
  have h02 : orX (fA M1 B) v (mkO (ksL N.1)) := by have q := h0.2.1; rw [hup] at q; exact q
  obtain ⟨p1, p2, p3, p4, ⟨p5a, p5b, p5c⟩, p6, p7, p9⟩ := id h01
  have hbp := hI.1.p hI.2.1
  obtain ⟨b1, b2, b3, b4, b5, b6, b7, b8⟩ := id hbp
  have htg := tgR_b ((b3 k (by omega)).2.2.2)
  refine hz_aloadn (pc := 5) 0 (hz_dec kX12_limb 3 rfl) rfl ?_
  refine hz_iloadn (pc := 6) 1 (hz_dec kX12_limb 4 rfl) rfl ?_
  refine hz_xV (pc := 7) (a := B) (As := [.int (nI v)]) (st := []) (hz_dec kX12_limb 5 rfl) co_X12_692 im_X12_stateOf se_X12_stateOf rfl hO1 h8 (by omega) (c_st hnn hR1 hv) rfl (by decide) ⟨Nat.le_refl _, Nat.le_refl _⟩ (Nat.le_of_ble_eq_true rfl) rfl ?_
  refine hz_eqi (pc := 10) eSt ?_
  refine hz_z_ne (pc := 10) (tgt := 37) (hz_dec kX12_limb 6 rfl) (by decide) (by omega) (fun hq1 => ?_) (fun hq1 => ?_)
  · skip
    exact absurd hq1 (by decide)
  · skip
    refine hz_iloadn (pc := 13) 2 (hz_dec kX12_limb 7 rfl) rfl ?_
    refine hz_z_lt (pc := 14) (tgt := 37) (hz_dec kX12_limb 8 rfl) (by decide) (by omega) ?_
    refine hz_iloadn (pc := 17) 2 (hz_dec kX12_limb 9 rfl) rfl ?_
    refine hz_aloadn (pc := 18) 0 (hz_dec kX12_limb 10 rfl) rfl ?_
    refine hz_get (pc := 19) (v := .ref (B + 20)) (hz_dec kX12_limb 11 rfl) fo_X12_71 hO1 h8 (by omega) (hF1.2 22 (by decide) (by decide)) ?_
    refine hz_iloadn (pc := 22) 1 (hz_dec kX12_limb 12 rfl) rfl ?_
    refine hz_iald (pc := 23) (j := v) (hz_dec kX12_limb 13 rfl) hE1.a20 (by omega) (by omega) rfl (by omega) (by decide) ?_
    refine hz_eqi (pc := 24) p5b.1 ?_
    refine hz_n_ge (pc := 24) (tgt := 37) (hz_dec kX12_limb 14 rfl) (by decide) (by omega) (by omega) (fun h4 => ?_) (fun h4 => ?_)
    · skip
      exact absurd hk (by omega)
    · skip
      refine hz_iloadn (pc := 27) 3 (hz_dec kX12_limb 15 rfl) rfl ?_
      refine hz_z_lt (pc := 28) (tgt := 37) (hz_dec kX12_limb 16 rfl) (by decide) (by omega) ?_
      refine hz_iloadn (pc := 31) 3 (hz_dec kX12_limb 17 rfl) rfl ?_
      refine hz_bipush (pc := 32) (v := nI 12) (hz_dec kX12_limb 18 rfl) (by decide) ?_
      refine hz_n_le (pc := 34) (tgt := 39) (hz_dec kX12_limb 19 rfl) (by decide) (by omega) (by omega) (fun h6 => ?_) (fun h6 => ?_)
      · skip
        refine hz_iloadn (pc := 39) 1 (hz_dec kX12_limb 22 rfl) rfl ?_
        refine hz_iloadn (pc := 40) 2 (hz_dec kX12_limb 23 rfl) rfl ?_
        refine hz_xS (pc := 41) (As := [.int (nI v), .int (nI k)]) (st := []) (hz_dec kX12_limb 24 rfl) co_X12_419 sc_X12_at0 (c_at0 (v := v) (y := k)) rfl (by decide) ⟨Nat.le_refl _, Nat.le_refl _⟩ (Nat.le_of_ble_eq_true rfl) rfl ?_
        refine hz_istore (pc := 44) (i := 4) (lo2 := [(4, .int (nI (128 * v + k))), (0, .ref B), (1, .int (nI v)), (2, .int (nI k)), (3, .int (nI wh))]) (hz_dec kX12_limb 25 rfl) (by decide) rfl ?_
        refine hz_iloadn (pc := 46) 4 (hz_dec kX12_limb 26 rfl) rfl ?_
        refine hz_iconst (pc := 47) (v := nI 4) (hz_dec kX12_limb 27 rfl) (by decide) ?_
        refine hz_n_ge (pc := 48) (tgt := 69) (hz_dec kX12_limb 28 rfl) (by decide) (by omega) (by omega) (fun hg2 => ?_) (fun hg2 => ?_)
        · skip
          refine hz_iloadn (pc := 69) 4 (hz_dec kX12_limb 40 rfl) rfl ?_
          refine hz_bipush (pc := 70) (v := nI 8) (hz_dec kX12_limb 41 rfl) (by decide) ?_
          refine hz_n_ge (pc := 72) (tgt := 96) (hz_dec kX12_limb 42 rfl) (by decide) (by omega) (by omega) (fun hg3 => ?_) (fun hg3 => ?_)
          · skip
            refine hz_iloadn (pc := 96) 4 (hz_dec kX12_limb 58 rfl) rfl ?_
            refine hz_bipush (pc := 97) (v := nI 12) (hz_dec kX12_limb 59 rfl) (by decide) ?_
            refine hz_n_ge (pc := 99) (tgt := 132) (hz_dec kX12_limb 60 rfl) (by decide) (by omega) (by omega) (fun hg4 => ?_) (fun hg4 => ?_)
            · skip
              refine hz_aloadn (pc := 132) 1 (hz_dec kX12_limb 79 rfl) rfl ?_
              refine hz_iloadn (pc := 133) 2 (hz_dec kX12_limb 80 rfl) rfl ?_
              refine hz_iloadn (pc := 134) 3 (hz_dec kX12_limb 81 rfl) rfl ?_
              have hbl := (b4 k hk).len
              refine hz_callV (pc := 135) (a := B) (As := [.int (nI v), .int (nI k)]) (st := []) (hz_dec kX12_limb 82 rfl) co_X12_664 im_X12_bring se_X12_bring rfl hO1 h8 (by omega) (c_br hk1.1 hE1 h8 hz hv6 (by omega) p5b hk (p5c k hk) (by omega)) rfl (by decide) ⟨Nat.le_refl _, Nat.le_refl _⟩ (Nat.le_of_ble_eq_true rfl) rfl (fun r9 z9 M2 hp9 => ?_)
              obtain ⟨rfl, rfl, hf2, hE2_, h39, hA2⟩ := hp9
              have hR2 : hmR M2 z B H := hR1.sc hf2 hE2_ rfl rfl rfl rfl rfl rfl rfl rfl rfl rfl rfl rfl rfl rfl rfl rfl rfl rfl rfl
              obtain ⟨hk2, hE2, ⟨n2, d2, q2⟩, hNd2, a52, a62, a72, a82⟩ := id hR2
              obtain ⟨⟨fs2, hO2, hF2⟩, -, -, -, -⟩ := id hk2
              refine hz_aloadn (pc := 138) 1 (hz_dec kX12_limb 83 rfl) rfl ?_
              refine hz_get (pc := 139) (v := .ref (B + 35)) (hz_dec kX12_limb 84 rfl) fo_X12_116 hO2 h8 (by omega) (hF2.2 38 (by decide) (by decide)) ?_
              refine hz_bipush (pc := 142) (v := nI 72) (hz_dec kX12_limb 85 rfl) (by decide) ?_
              refine hz_xS (pc := 144) (As := [.ref (B + 35), .int (nI 72)]) (st := []) (hz_dec kX12_limb 86 rfl) co_X12_330 sc_X12_longAt (c_longAt (at_ := 72) hE2.a35 (by omega) (by omega) (by decide) (by decide)) rfl (by decide) ⟨Nat.le_refl _, Nat.le_refl _⟩ (Nat.le_of_ble_eq_true rfl) rfl ?_
              have e9 := num_of (i := 72) (k := 8) hA2 (by omega)
              rw [Nat.zero_add] at e9
              refine hz_eql (pc := 147) e9 ?_
              exact hz_lret (pc := 147) (hz_dec kX12_limb 87 rfl) rfl ⟨rfl, rfl, (hf1.S rfl).tr (hf2.S rfl), hR2⟩
            · skip
              exact absurd hw (by omega)
          · skip
            exact absurd hw (by omega)
        · skip
          exact absurd hw (by omega)
      · skip
        exact absurd hw (by omega)
