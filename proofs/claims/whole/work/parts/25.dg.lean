/-! what hashes are as numbers and as bytes -/
theorem un_l (v : Int64) : un v.toInt32 = uL v % 4294967296 := by
  show (v.toInt32).toBitVec.toNat = v.toBitVec.toNat % 4294967296
  rw [Int64.toBitVec_toInt32, BitVec.signExtend_eq_setWidth_of_le _ (by decide), BitVec.toNat_setWidth]
theorem uL_i (x : Int32) : uL x.toInt64 % 4294967296 = un x := by rw [← un_l, Int32.toInt32_toInt64]
theorem i_shl32 (x : Int32) : x.toInt64 <<< ((nI 32).toInt64 &&& 63) = lN (un x * 4294967296) := by
  have h := uL_i x
  rw [← lN_uL x.toInt64, wb_shl _ (by decide)]
  rw [wb_mod, wb_mod (un x * 4294967296)]
  apply congrArg lN
  omega
theorem i_lo32 (x : Int32) : x.toInt64 &&& 4294967295 = lN (un x) := by
  have h := wb_mask (n := uL x.toInt64) (k := 32) (uL_lt _) (by decide)
  rw [lN_uL] at h
  rw [← uL_i x]
  exact h
/-- limb k of a hash -/
def sh_lim (h : Nat → Int32) (k : Nat) : Int64 := lN (un (h (2 * k)) * 4294967296 + un (h (2 * k + 1)))
theorem sh_lim_i (a b : Int32) : (a.toInt64 <<< ((nI 32).toInt64 &&& 63)) ||| (b.toInt64 &&& 4294967295) = lN (un a * 4294967296 + un b) := by
  have h1 := un_lt a
  have h2 := un_lt b
  rw [i_shl32, i_lo32, g_or (k := 32) (p := 4294967296) (by decide) h2 (by omega)]
theorem bb_dg (h : Nat → Int32) (i : Nat) : bb (sh_dg h i) = un (h (i / 4)) / 2 ^ (24 - 8 * (i % 4)) % 256 := by
  unfold sh_dg
  rw [bb_i8, bb_i8, bb_shr _ (by omega)]
theorem bn_4 {f : Nat → Int32} {a x : Nat} (hx : x < 4294967296) (h : ∀ j, j < 4 → bb (f (a + j)) = x / 2 ^ (24 - 8 * j) % 256) : bn_nat f a 4 = x := by
  have h0 := h 0 (by decide)
  have h1 := h 1 (by decide)
  have h2 := h 2 (by decide)
  have h3 := h 3 (by decide)
  simp only [bn_nat, h0, h1, h2, h3]
  simp only [Nat.reduceMul, Nat.reduceSub, Nat.reducePow]
  omega
theorem bn_add (f : Nat → Int32) (a m : Nat) : ∀ k, bn_nat f a (m + k) = bn_nat f a m * 256 ^ k + bn_nat f (a + m) k := by
  intro k
  induction k with
  | zero => simp [bn_nat]
  | succ k ih =>
    show bn_nat f a (m + k) * 256 + bb (f (a + (m + k))) = _
    rw [ih, Nat.pow_succ, ← Nat.add_assoc]
    simp only [bn_nat]
    rw [Nat.add_mul, Nat.mul_assoc, Nat.add_assoc]
theorem sh_lim_n {g h : Nat → Int32} {k : Nat} (hg : ∀ i, i < 32 → g i = sh_dg h i) (hk : k < 4) : bn_num g (8 * k) 8 = sh_lim h k := by
  rw [bn_num_n 8 (by omega)]
  unfold sh_lim
  apply congrArg lN
  rw [show (8 : Nat) = 4 + 4 from rfl, bn_add g ((4 + 4) * k) 4 4]
  rw [bn_4 (x := un (h (2 * k))) (un_lt _) (fun j hj => ?_), bn_4 (x := un (h (2 * k + 1))) (un_lt _) (fun j hj => ?_)]
  · rw [hg _ (by omega), bb_dg, show ((4 + 4) * k + 4 + j) / 4 = 2 * k + 1 by omega, show ((4 + 4) * k + 4 + j) % 4 = j by omega]
  · rw [hg _ (by omega), bb_dg, show ((4 + 4) * k + j) / 4 = 2 * k by omega, show ((4 + 4) * k + j) % 4 = j by omega]
/-- a hash looks at the bytes alone -/
theorem sh_by_c {f g : Nat → Int32} {a b n : Nat} (h : ∀ i, i < n → bb (f (a + i)) = bb (g (b + i))) (p : Nat) : sh_by f a n p = sh_by g b n p := by
  unfold sh_by
  by_cases hp : p < n
  · rw [if_pos hp, if_pos hp, h p hp]
  · rw [if_neg hp, if_neg hp]
theorem sh_w1_c {f g : Nat → Int32} {a b n : Nat} (h : ∀ i, i < n → bb (f (a + i)) = bb (g (b + i))) (p : Nat) : ∀ k, sh_w1 f a n p k = sh_w1 g b n p k := by
  intro k
  induction k with
  | zero => rfl
  | succ k ih => simp only [sh_w1, ih, sh_by_c h]
theorem sh_all_c {f g : Nat → Int32} {a b n : Nat} (h : ∀ i, i < n → bb (f (a + i)) = bb (g (b + i))) : ∀ q, sh_all f a n q = sh_all g b n q := by
  intro q
  induction q with
  | zero => rfl
  | succ q ih =>
    have e : sh_wd f a n (64 * q) = sh_wd g b n (64 * q) := by
      funext i
      unfold sh_wd
      rw [sh_w1_c h]
    simp only [sh_all, ih, e]
theorem sh_h_c {f g : Nat → Int32} {a b n : Nat} (h : ∀ i, i < n → bb (f (a + i)) = bb (g (b + i))) : sh_h f a n = sh_h g b n := sh_all_c h _
theorem sh_dg_c {h k : Nat → Int32} {i : Nat} (hi : i < 32) (e : ∀ j, j < 8 → h j = k j) : sh_dg h i = sh_dg k i := by
  unfold sh_dg
  rw [e (i / 4) (by omega)]
theorem sh_lim_c {h k : Nat → Int32} {i : Nat} (hi : i < 4) (e : ∀ j, j < 8 → h j = k j) : sh_lim h i = sh_lim k i := by
  unfold sh_lim
  rw [e (2 * i) (by omega), e (2 * i + 1) (by omega)]
/-- the hash of a hash -/
def sh_2 (h : Nat → Int32) : Nat → Int32 := sh_h (sh_dg h) 0 32
theorem sh_2_c {h k : Nat → Int32} (e : ∀ j, j < 8 → h j = k j) : sh_2 h = sh_2 k := sh_h_c (fun i hi => by rw [Nat.zero_add, sh_dg_c hi e])
theorem sh_2_o {h o : Nat → Int32} (e : ∀ i, i < 32 → o i = sh_dg h i) : sh_h o 0 32 = sh_2 h := sh_h_c (fun i hi => by rw [Nat.zero_add, e i hi])
/-- word i put down in four bytes -/
theorem sh_put4 {h g : Nat → Int32} {a i : Nat} (hi : i < 8) : ∀ j, j < 4 → bn_put (a + 4 * i) 4 (h i).toInt64 g (a + (4 * i + j)) = sh_dg h (4 * i + j) := by
  intro j hj
  rw [← Nat.add_assoc, bn_put_in 4 _ _ j (by omega) hj]
  refine bb_eq (i8_i8 _) (by unfold sh_dg; exact i8_i8 _) ?_
  rw [bb_i8, bb_i8, bb_shrL _ (by omega), bb_dg, show (4 * i + j) / 4 = i by omega, show (4 * i + j) % 4 = j by omega, ← uL_i (h i)]
  generalize uL (h i).toInt64 = n
  rcases (show j = 0 ∨ j = 1 ∨ j = 2 ∨ j = 3 by omega) with rfl | rfl | rfl | rfl <;> simp only [Nat.reduceMul, Nat.reduceSub, Nat.reducePow] <;> omega

set_option maxHeartbeats 4000000 in
set_option maxRecDepth 100000 in
theorem c_limbOf {κ : hz_C} {z : Nat} {M : hz_M} {s vA wA oA : Nat} {v : Nat → Int32} (hS : M s = .inr (8, [.ref vA, .ref wA, .ref oA])) (hV : M vA = .inl (0, 8, .inl v)) (hs : 8 ≤ s ∧ s < z) (hv : 8 ≤ vA ∧ vA < z) {k : Nat} (hk : k < 4) : hz_Mt κ xX8_limbOf 0 0 0 [.ref s, .int (nI k)] z M (hz_ex (some (.long (sh_lim v k))) z M) := by
  refine hz_ent (lo := [(0, .ref s), (1, .int (nI k))]) (by decide) (Nat.le_of_ble_eq_true rfl) rfl ?_
  refine hz_iloadn (pc := 0) 1 (hz_dec kX8_limbOf 0 rfl) rfl ?_
  refine hz_z_lt (pc := 1) (tgt := 9) (hz_dec kX8_limbOf 1 rfl) (by decide) (by omega) ?_
  refine hz_iloadn (pc := 4) 1 (hz_dec kX8_limbOf 2 rfl) rfl ?_
  refine hz_iconst (pc := 5) (v := nI 3) (hz_dec kX8_limbOf 3 rfl) (by decide) ?_
  refine hz_n_le (pc := 6) (tgt := 13) (hz_dec kX8_limbOf 4 rfl) (by decide) (by omega) (by omega) (fun h1 => ?_) (fun h1 => ?_)
  · skip
    refine hz_aloadn (pc := 13) 0 (hz_dec kX8_limbOf 7 rfl) rfl ?_
    refine hz_get (pc := 14) (hz_dec kX8_limbOf 8 rfl) fo_X8_9 hS hs.1 hs.2 rfl ?_
    refine hz_iconst (pc := 17) (v := nI 2) (hz_dec kX8_limbOf 9 rfl) (by decide) ?_
    refine hz_iloadn (pc := 18) 1 (hz_dec kX8_limbOf 10 rfl) rfl ?_
    refine hz_mulN (pc := 19) (hz_dec kX8_limbOf 11 rfl) ?_
    refine hz_iald (pc := 20) (j := 2 * k) (hz_dec kX8_limbOf 12 rfl) hV hv.1 hv.2 rfl (by omega) (by decide) ?_
    refine hz_i2l (pc := 21) (hz_dec kX8_limbOf 13 rfl) ?_
    refine hz_bipush (pc := 22) (v := nI 32) (hz_dec kX8_limbOf 14 rfl) (by decide) ?_
    refine hz_lshl (pc := 24) (hz_dec kX8_limbOf 15 rfl) ?_
    refine hz_aloadn (pc := 25) 0 (hz_dec kX8_limbOf 16 rfl) rfl ?_
    refine hz_get (pc := 26) (hz_dec kX8_limbOf 17 rfl) fo_X8_9 hS hs.1 hs.2 rfl ?_
    refine hz_iconst (pc := 29) (v := nI 2) (hz_dec kX8_limbOf 18 rfl) (by decide) ?_
    refine hz_iloadn (pc := 30) 1 (hz_dec kX8_limbOf 19 rfl) rfl ?_
    refine hz_mulN (pc := 31) (hz_dec kX8_limbOf 20 rfl) ?_
    refine hz_iconst (pc := 32) (v := nI 1) (hz_dec kX8_limbOf 21 rfl) (by decide) ?_
    refine hz_addN (pc := 33) (hz_dec kX8_limbOf 22 rfl) ?_
    refine hz_iald (pc := 34) (j := (2 * k) + 1) (hz_dec kX8_limbOf 23 rfl) hV hv.1 hv.2 rfl (by omega) (by decide) ?_
    refine hz_i2l (pc := 35) (hz_dec kX8_limbOf 24 rfl) ?_
    refine hz_ldc2 (pc := 36) (v := (4294967295)) (hz_dec kX8_limbOf 25 rfl) ks_X8_42 ?_
    refine hz_land (pc := 39) (hz_dec kX8_limbOf 26 rfl) ?_
    refine hz_lor (pc := 40) (hz_dec kX8_limbOf 27 rfl) ?_
    exact hz_lret (pc := 41) (hz_dec kX8_limbOf 28 rfl) rfl ⟨by rw [sh_lim_i]; rfl, rfl, rfl⟩
  · skip
    exact absurd h1 (by omega)
set_option maxHeartbeats 4000000 in
set_option maxRecDepth 100000 in
theorem c_limbOf0 {κ : hz_C} {z : Nat} {M : hz_M} {s vA wA oA : Nat} {v : Nat → Int32} (hS : M s = .inr (8, [.ref vA, .ref wA, .ref oA])) (hV : M vA = .inl (0, 8, .inl v)) (hs : 8 ≤ s ∧ s < z) (hv : 8 ≤ vA ∧ vA < z) {k : Int32} (hk : k < 0 ∨ 3 < k) : hz_Mt κ xX8_limbOf 0 0 0 [.ref s, .int k] z M (hz_ex (some (.long 0)) z M) := by
  refine hz_ent (lo := [(0, .ref s), (1, .int k)]) (by decide) (Nat.le_of_ble_eq_true rfl) rfl ?_
  refine hz_iloadn (pc := 0) 1 (hz_dec kX8_limbOf 0 rfl) rfl ?_
  refine hz_if_lt (pc := 1) (tgt := 9) (hz_dec kX8_limbOf 1 rfl) (by decide) (fun h0 => ?_) (fun h0 => ?_)
  · skip
    refine hz_lconst (pc := 9) (v := 0) (hz_dec kX8_limbOf 5 rfl) (by decide) ?_
    refine hz_goto (pc := 10) (tgt := 41) (hz_dec kX8_limbOf 6 rfl) (by decide) ?_
    exact hz_lret (pc := 41) (hz_dec kX8_limbOf 28 rfl) rfl ⟨rfl, rfl, rfl⟩
  · skip
    refine hz_iloadn (pc := 4) 1 (hz_dec kX8_limbOf 2 rfl) rfl ?_
    refine hz_iconst (pc := 5) (v := nI 3) (hz_dec kX8_limbOf 3 rfl) (by decide) ?_
    refine hz_icmp_le (pc := 6) (tgt := 13) (hz_dec kX8_limbOf 4 rfl) (by decide) (fun h1 => ?_) (fun h1 => ?_)
    · skip
      exact absurd hk (fun q => q.elim h0 (fun q => Int32.not_lt.mpr h1 q))
    · skip
      refine hz_lconst (pc := 9) (v := 0) (hz_dec kX8_limbOf 5 rfl) (by decide) ?_
      refine hz_goto (pc := 10) (tgt := 41) (hz_dec kX8_limbOf 6 rfl) (by decide) ?_
      exact hz_lret (pc := 41) (hz_dec kX8_limbOf 28 rfl) rfl ⟨rfl, rfl, rfl⟩
set_option maxHeartbeats 4000000 in
set_option maxRecDepth 100000 in
theorem l_writeTo {κ : hz_C} {z : Nat} {M : hz_M} {P : hz_P} {s vA wA oA : Nat} {v : Nat → Int32} (hS : M s = .inr (8, [.ref vA, .ref wA, .ref oA])) (hV : M vA = .inl (0, 8, .inl v)) (hs : 8 ≤ s ∧ s < z) (hv : 8 ≤ vA ∧ vA < z) {b n at_ : Nat} (hb : 8 ≤ b ∧ b < z) (hn : n < 2 ^ 31) (hr : at_ + 32 ≤ n) (hbv : b ≠ vA) (hbs : b ≠ s) {g0 : Nat → Int32} (hB : M b = .inl (1, n, .inl g0)) (K : ∀ g : Nat → Int32, (∀ j, j < 32 → g (at_ + j) = sh_dg v j) → (∀ q, q < at_ ∨ at_ + 32 ≤ q → g q = g0 q) → P none z (va_up M b (.inl (1, n, .inl (g))))) : ∀ k i g, k = 8 - i → i ≤ 8 → (∀ j, j < 4 * i → g (at_ + j) = sh_dg v j) → (∀ q, q < at_ ∨ at_ + 32 ≤ q → g q = g0 q) → hz_W κ xX8_writeTo 1 0 0 P 0 0 2 [(3, .int (nI i)), (0, .ref s), (1, .ref b), (2, .int (nI at_))] [] z (va_up M b (.inl (1, n, .inl (g)))) := by
  intro k
  induction k using Nat.strongRecOn with
  | ind k ih =>
  intro i g hk hi hg ho
  refine hz_iloadn (pc := 2) 0 (hz_dec kX8_writeTo 2 rfl) rfl ?_
  refine hz_bipush (pc := 3) (v := nI 8) (hz_dec kX8_writeTo 3 rfl) (by decide) ?_
  refine hz_n_ge (pc := 5) (tgt := 31) (hz_dec kX8_writeTo 4 rfl) (by decide) (by omega) (by omega) (fun h1 => ?_) (fun h1 => ?_)
  · skip
    have e : i = 8 := by omega
    subst e
    exact hz_vret (pc := 31) (hz_dec kX8_writeTo 20 rfl) rfl (K g hg ho)
  · skip
    refine hz_aloadn (pc := 8) 2 (hz_dec kX8_writeTo 5 rfl) rfl ?_
    refine hz_iloadn (pc := 9) 3 (hz_dec kX8_writeTo 6 rfl) rfl ?_
    refine hz_iconst (pc := 10) (v := nI 4) (hz_dec kX8_writeTo 7 rfl) (by decide) ?_
    refine hz_iloadn (pc := 11) 0 (hz_dec kX8_writeTo 8 rfl) rfl ?_
    refine hz_mulN (pc := 12) (hz_dec kX8_writeTo 9 rfl) ?_
    refine hz_addN (pc := 13) (hz_dec kX8_writeTo 10 rfl) ?_
    refine hz_aloadn (pc := 14) 1 (hz_dec kX8_writeTo 11 rfl) rfl ?_
    refine hz_get (pc := 15) (hz_dec kX8_writeTo 12 rfl) fo_X8_9 (hz_mne hS (Ne.symm hbs)) hs.1 hs.2 rfl ?_
    refine hz_iloadn (pc := 18) 0 (hz_dec kX8_writeTo 13 rfl) rfl ?_
    refine hz_iald (pc := 19) (j := i) (hz_dec kX8_writeTo 14 rfl) (hz_mne hV (Ne.symm hbv)) hv.1 hv.2 rfl (by omega) (by decide) ?_
    refine hz_i2l (pc := 20) (hz_dec kX8_writeTo 15 rfl) ?_
    refine hz_iconst (pc := 21) (v := nI 4) (hz_dec kX8_writeTo 16 rfl) (by decide) ?_
    refine hz_xS (pc := 22) (As := [.ref b, .int (nI (at_ + (4 * i))), .long ((v i).toInt64), .int (nI 4)]) (st := []) (hz_dec kX8_writeTo 17 rfl) co_X8_36 sc_X0_put (c_put (va_up_self _ _ _) hb.1 hb.2 hn (by omega)) rfl (by decide) ⟨Nat.le_refl _, Nat.le_refl _⟩ (Nat.le_of_ble_eq_true rfl) rfl ?_
    refine hz_mem (pc := 25) (M2 := (va_up M b (.inl (1, n, .inl (bn_put (at_ + 4 * i) 4 (v i).toInt64 g))))) (bx_uu _ _ _ _) ?_
    refine hz_incN (pc := 25) (i := 3) (lo2 := [(3, .int (nI (i + 1))), (0, .ref s), (1, .ref b), (2, .int (nI at_))]) 0 (hz_dec kX8_writeTo 18 rfl) rfl (by decide) rfl ?_
    refine hz_goto (pc := 28) (tgt := 2) (hz_dec kX8_writeTo 19 rfl) (by decide) ?_
    refine hz_pick (pc := 2) [0, 1, 2, 3] rfl ?_
    refine ih (8 - (i + 1)) (by omega) (i + 1) _ rfl (by omega) (fun j hj => ?_) (fun q hq => ?_)
    · rcases Nat.lt_or_ge j (4 * i) with r | r
      · rw [bn_put_out _ _ _ _ (by omega)]; exact hg j r
      · obtain ⟨j2, rfl⟩ : ∃ j2, j = 4 * i + j2 := ⟨j - 4 * i, by omega⟩
        exact sh_put4 h1 j2 (by omega)
    · rw [bn_put_out _ _ _ _ (by omega)]; exact ho q hq
def sh_wP (M : hz_M) (z b n at_ : Nat) (v g0 : Nat → Int32) : hz_P := fun r z2 M2 => none = r ∧ z = z2 ∧ ∃ g : Nat → Int32, (∀ j, j < 32 → g (at_ + j) = sh_dg v j) ∧ (∀ q, q < at_ ∨ at_ + 32 ≤ q → g q = g0 q) ∧ (va_up M b (.inl (1, n, .inl (g)))) = M2
set_option maxHeartbeats 4000000 in
set_option maxRecDepth 100000 in
theorem c_writeTo {κ : hz_C} {z : Nat} {M : hz_M} {s vA wA oA : Nat} {v : Nat → Int32} (hS : M s = .inr (8, [.ref vA, .ref wA, .ref oA])) (hV : M vA = .inl (0, 8, .inl v)) (hs : 8 ≤ s ∧ s < z) (hv : 8 ≤ vA ∧ vA < z) {b n at_ : Nat} (hb : 8 ≤ b ∧ b < z) (hn : n < 2 ^ 31) (hr : at_ + 32 ≤ n) {g0 : Nat → Int32} (hB : M b = .inl (1, n, .inl g0)) : hz_Mt κ xX8_writeTo 1 0 0 [.ref s, .ref b, .int (nI at_)] z M (sh_wP M z b n at_ v g0) := by
  refine hz_ent (lo := [(0, .ref s), (1, .ref b), (2, .int (nI at_))]) (by decide) (Nat.le_of_ble_eq_true rfl) rfl ?_
  refine hz_iconst (pc := 0) (v := nI 0) (hz_dec kX8_writeTo 0 rfl) (by decide) ?_
  refine hz_istoren (pc := 1) (i := 3) (lo2 := [(3, .int (nI 0)), (0, .ref s), (1, .ref b), (2, .int (nI at_))]) (hz_dec kX8_writeTo 1 rfl) rfl (by decide) rfl ?_
  refine hz_pick (pc := 2) [0, 1, 2, 3] rfl ?_
  refine hz_mem (hz_upid hB).symm ?_
  exact l_writeTo hS hV hs hv hb hn hr (hz_tt hB hV (by decide)) (Ne.symm (hz_oa hS hB)) hB (fun g h1 h2 => ⟨rfl, rfl, g, h1, h2, rfl⟩) 8 0 g0 rfl (by omega) (fun j hj => absurd hj (by omega)) (fun q _ => rfl)
def sh_aP (M : hz_M) (z vA wA oA : Nat) (v : Nat → Int32) : hz_P := fun r z2 M2 => none = r ∧ z = z2 ∧ ∃ g v2 u2 : Nat → Int32, (∀ j, j < 8 → v2 j = sh_2 v j) ∧ (va_up (va_up (va_up M oA (.inl (1, 32, .inl g))) vA (.inl (0, 8, .inl v2))) wA (.inl (0, 64, .inl u2))) = M2
set_option maxHeartbeats 4000000 in
set_option maxRecDepth 100000 in
theorem c_again {κ : hz_C} {z : Nat} {M : hz_M} {s vA wA oA : Nat} {v : Nat → Int32} (hS : M s = .inr (8, [.ref vA, .ref wA, .ref oA])) (hV : M vA = .inl (0, 8, .inl v)) (hs : 8 ≤ s ∧ s < z) (hv : 8 ≤ vA ∧ vA < z) {fw fo_ : Nat → Int32} (hW : M wA = .inl (0, 64, .inl fw)) (hO : M oA = .inl (1, 32, .inl fo_)) (hw : 8 ≤ wA ∧ wA < z) (ho : 8 ≤ oA ∧ oA < z) (hvw : vA ≠ wA) : hz_Mt κ xX8_again 2 0 0 [.ref s] z M (sh_aP M z vA wA oA v) := by
  refine hz_ent (lo := [(0, .ref s)]) (by decide) (Nat.le_of_ble_eq_true rfl) rfl ?_
  refine hz_aloadn (pc := 0) 0 (hz_dec kX8_again 0 rfl) rfl ?_
  refine hz_aloadn (pc := 1) 0 (hz_dec kX8_again 1 rfl) rfl ?_
  refine hz_get (pc := 2) (hz_dec kX8_again 2 rfl) fo_X8_18 hS hs.1 hs.2 rfl ?_
  refine hz_iconst (pc := 5) (v := nI 0) (hz_dec kX8_again 3 rfl) (by decide) ?_
  refine hz_callV (pc := 6) (a := s) (As := [.ref oA, .int (nI 0)]) (st := []) (hz_dec kX8_again 4 rfl) co_X8_28 im_X8_writeTo se_X8_writeTo rfl hS hs.1 hs.2 (c_writeTo (n := 32) (at_ := 0) hS hV hs hv ho (by decide) (by decide) hO) rfl (by decide) ⟨Nat.le_refl _, Nat.le_refl _⟩ (Nat.le_of_ble_eq_true rfl) rfl (fun r9 z9 M9 hp9 => ?_)
  obtain ⟨rfl, rfl, g, hg, hgo, rfl⟩ := hp9
  refine hz_aloadn (pc := 9) 0 (hz_dec kX8_again 5 rfl) rfl ?_
  refine hz_aloadn (pc := 10) 0 (hz_dec kX8_again 6 rfl) rfl ?_
  refine hz_get (pc := 11) (hz_dec kX8_again 7 rfl) fo_X8_18 (hz_mne hS (hz_oa hS hO)) hs.1 hs.2 rfl ?_
  refine hz_iconst (pc := 14) (v := nI 0) (hz_dec kX8_again 8 rfl) (by decide) ?_
  refine hz_bipush (pc := 15) (v := nI 32) (hz_dec kX8_again 9 rfl) (by decide) ?_
  refine hz_callV (pc := 17) (a := s) (As := [.ref oA, .int (nI 0), .int (nI 32)]) (st := []) (hz_dec kX8_again 10 rfl) co_X8_32 im_X8_digest se_X8_digest rfl (hz_mne hS (hz_oa hS hO)) hs.1 hs.2 (c_digest (at_ := 0) (n := 32) (hz_mne hS (hz_oa hS hO)) (hz_mne hV (Ne.symm (hz_tt hO hV (by decide)))) (hz_mne hW (Ne.symm (hz_tt hO hW (by decide)))) (va_up_self _ _ _) ⟨hs, hv, hw, ho⟩ (by decide) (by decide) hvw) rfl (by decide) ⟨Nat.le_refl _, Nat.le_refl _⟩ (Nat.le_of_ble_eq_true rfl) rfl (fun r9 z9 M9 hp9 => ?_)
  obtain ⟨rfl, rfl, v2, u2, hv2, rfl⟩ := hp9
  have hg2 : ∀ i, i < 32 → g i = sh_dg v i := fun i hi => by have q := hg i hi; rw [Nat.zero_add] at q; exact q
  exact hz_vret (pc := 20) (hz_dec kX8_again 11 rfl) rfl ⟨rfl, rfl, g, v2, u2, fun j hj => by rw [hv2 j hj, sh_2_o hg2], rfl⟩
