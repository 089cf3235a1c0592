/-! adding, taking, multiplying numbers of many words -/
theorem bg_cons (f : Nat → Int32) (a : Nat) : ∀ m, bg f a (m + 1) = un (f a) * 4294967296 ^ m + bg f (a + 1) m := by
  intro m
  induction m with
  | zero => simp [bg]
  | succ m ih =>
    have e : bg f a (m + 1 + 1) = bg f a (m + 1) * 4294967296 + un (f (a + (m + 1))) := rfl
    have e2 : bg f (a + 1) (m + 1) = bg f (a + 1) m * 4294967296 + un (f (a + 1 + m)) := rfl
    rw [e, ih, e2, Nat.add_mul, Nat.mul_assoc, ← Nat.pow_succ, Nat.add_assoc, show a + (m + 1) = a + 1 + m by omega]
theorem bg_up {f : Nat → Int32} {a k : Nat} {v : Int32} : ∀ m, (k < a ∨ a + m ≤ k) → bg (upd f k v) a m = bg f a m := by
  intro m h
  refine bg_c m (fun i hi => ?_)
  simp only [upd]
  rw [if_neg (by omega)]
theorem un_nIm (n : Nat) : un (nI n) = n % 4294967296 := by
  show (BitVec.ofNat 32 n).toNat = _
  rw [BitVec.toNat_ofNat]
/-- one word of a sum -/
theorem ad_step {f fa fb : Nat → Int32} {k m c W : Nat} (hW : W = 4294967296 ^ m) (h : bg f (k + 1) m + c * W = bg fa (k + 1) m + bg fb (k + 1) m) :
    bg (upd f k (nI (c + (un (fa k) + un (fb k))))) k (m + 1) + (c + (un (fa k) + un (fb k))) / 2 ^ 32 * 4294967296 ^ (m + 1) = bg fa k (m + 1) + bg fb k (m + 1) := by
  have hp : (4294967296 : Nat) ^ (m + 1) = W * 4294967296 := by rw [hW, Nat.pow_succ]
  rw [bg_cons, bg_cons fa, bg_cons fb, bg_up m (by omega), hp, ← hW]
  have e0 : upd f k (nI (c + (un (fa k) + un (fb k)))) k = nI (c + (un (fa k) + un (fb k))) := by simp [upd]
  rw [e0, un_nIm]
  generalize un (fa k) = x at *
  generalize un (fb k) = y at *
  have e1 : (c + (x + y)) % 4294967296 + (c + (x + y)) / 2 ^ 32 * 4294967296 = c + (x + y) := by omega
  have e2 := congrArg (fun t => t * W) e1
  simp only [Nat.add_mul] at e2
  rw [Nat.mul_assoc, Nat.mul_comm 4294967296 W] at e2
  omega
/-- one word of a multiple -/
theorem tm_step {f fa : Nat → Int32} {k m c W n : Nat} (hW : W = 4294967296 ^ m) (h : bg f (k + 1) m + c * W = bg fa (k + 1) m * n) :
    bg (upd f k (nI (c + un (fa k) * n))) k (m + 1) + (c + un (fa k) * n) / 2 ^ 32 * 4294967296 ^ (m + 1) = bg fa k (m + 1) * n := by
  have hp : (4294967296 : Nat) ^ (m + 1) = W * 4294967296 := by rw [hW, Nat.pow_succ]
  rw [bg_cons, bg_cons fa, bg_up m (by omega), hp, ← hW]
  have e0 : upd f k (nI (c + un (fa k) * n)) k = nI (c + un (fa k) * n) := by simp [upd]
  rw [e0, un_nIm, Nat.add_mul (un (fa k) * W), ← h]
  have e3 : un (fa k) * W * n = un (fa k) * n * W := by rw [Nat.mul_assoc, Nat.mul_comm W n, ← Nat.mul_assoc]
  rw [e3]
  generalize un (fa k) * n = x at *
  have e1 : (c + x) % 4294967296 + (c + x) / 2 ^ 32 * 4294967296 = c + x := by omega
  have e2 := congrArg (fun t => t * W) e1
  simp only [Nat.add_mul] at e2
  rw [Nat.mul_assoc, Nat.mul_comm 4294967296 W] at e2
  omega
/-- a borrow -/
def bw (d : Nat) : Int64 := if d = 0 then 0 else -1
theorem tk_pos {x y d : Nat} (hd : d ≤ 1) (h : y + d ≤ x) : bw d + (lN x - lN y) = lN (x - (y + d)) := by
  rcases (show d = 0 ∨ d = 1 by omega) with rfl | rfl
  · show (0 : Int64) + (lN x - lN y) = _
    rw [Int64.zero_add, lN_sub (by omega)]
    rfl
  · show (-1 : Int64) + (lN x - lN y) = _
    rw [lN_sub (by omega), Int64.add_comm, show x - y = (x - (y + 1)) + 1 by omega, ← lN_add]
    show lN (x - (y + 1)) + 1 + -1 = _
    rw [Int64.add_assoc, show (1 : Int64) + -1 = 0 by decide, Int64.add_zero]
theorem tk_neg {x y d : Nat} (hd : d ≤ 1) (h : x < y + d) (hx : x < 4294967296) (hy : y < 4294967296) : bw d + (lN x - lN y) = lN (18446744073709551616 + x - (y + d)) := by
  apply uL_inj
  have hsub : uL (lN x - lN y) = (18446744073709551616 + x - y) % 18446744073709551616 := by
    show (lN x - lN y).toBitVec.toNat = _
    rw [Int64.toBitVec_sub, BitVec.toNat_sub, wb_tn (by omega), wb_tn (by omega)]
    congr 1
    omega
  have hadd : ∀ (p q : Int64), uL (p + q) = (uL p + uL q) % 18446744073709551616 := fun p q => by
    show (p + q).toBitVec.toNat = _
    rw [Int64.toBitVec_add, BitVec.toNat_add]
    rfl
  rw [hadd, hsub, uL_lN (by omega)]
  rcases (show d = 0 ∨ d = 1 by omega) with rfl | rfl
  · rw [show uL (bw 0) = 0 by decide]
    omega
  · rw [show uL (bw 1) = 18446744073709551615 by decide]
    omega
theorem sh_pos {x : Nat} (h : x < 4294967296) : lN x >>> ((nI 32).toInt64 &&& 63) = bw 0 := by
  apply Int64.toInt_inj.mp
  have e : (lN x >>> ((nI 32).toInt64 &&& 63)).toBitVec = (lN x).toBitVec.sshiftRight 32 := by
    rw [Int64.toBitVec_shiftRight]
    unfold BitVec.sshiftRight'
    rw [l_sm (by decide)]
  show (lN x >>> ((nI 32).toInt64 &&& 63)).toBitVec.toInt = _
  rw [e, BitVec.toInt_sshiftRight]
  show (lN x).toInt >>> 32 = _
  rw [pk_lT (by omega), Int.shiftRight_eq_div_pow]
  show (x : Int) / ((2 ^ 32 : Nat) : Int) = 0
  omega
theorem sh_neg {e : Nat} (h1 : 1 ≤ e) (h2 : e ≤ 4294967296) : lN (18446744073709551616 - e) >>> ((nI 32).toInt64 &&& 63) = bw 1 := by
  apply Int64.toInt_inj.mp
  have e0 : (lN (18446744073709551616 - e) >>> ((nI 32).toInt64 &&& 63)).toBitVec = (lN (18446744073709551616 - e)).toBitVec.sshiftRight 32 := by
    rw [Int64.toBitVec_shiftRight]
    unfold BitVec.sshiftRight'
    rw [l_sm (by decide)]
  show (lN (18446744073709551616 - e) >>> ((nI 32).toInt64 &&& 63)).toBitVec.toInt = _
  rw [e0, BitVec.toInt_sshiftRight, BitVec.toInt_eq_toNat_cond, wb_tn (by omega), if_neg (by omega), Int.shiftRight_eq_div_pow]
  show (((18446744073709551616 - e : Nat) : Int) - ((2 ^ 64 : Nat) : Int)) / ((2 ^ 32 : Nat) : Int) = -1
  omega
/-- one word of a difference -/
theorem tk_step {f fa fb : Nat → Int32} {k m d W x2 d2 : Nat} (hd : d ≤ 1) (hW : W = 4294967296 ^ m) (h : bg f (k + 1) m + bg fb (k + 1) m = bg fa (k + 1) m + d * W) (hx : x2 + un (fb k) + d = un (fa k) + d2 * 4294967296) (hx2 : x2 < 4294967296) :
    bg (upd f k (nI x2)) k (m + 1) + bg fb k (m + 1) = bg fa k (m + 1) + d2 * 4294967296 ^ (m + 1) := by
  rw [bg_cons, bg_cons fa, bg_cons fb, bg_up m (by omega), Nat.pow_succ, ← hW]
  have e0 : upd f k (nI x2) k = nI x2 := by simp [upd]
  rw [e0, un_nIm, Nat.mod_eq_of_lt hx2]
  have e2 := congrArg (fun t => t * W) hx
  simp only [Nat.add_mul] at e2
  rw [Nat.mul_assoc, Nat.mul_comm 4294967296 W] at e2
  omega

theorem bg_zero {f : Nat → Int32} {a : Nat} : ∀ n, (∀ i, i < n → f (a + i) = 0) → bg f a n = 0 := by
  intro n
  induction n with
  | zero => intro _; rfl
  | succ n ih =>
    intro h
    simp only [bg, ih (fun i hi => h i (by omega)), h n (by omega)]
    decide
set_option maxHeartbeats 4000000 in
set_option maxRecDepth 100000 in
theorem l_clear {κ : hz_C} {z : Nat} {M : hz_M} {b : Nat} {f0 : Nat → Int32} (hM : M b = .inl (0, 9, .inl f0)) (ha : 8 ≤ b) (hz : b < z) {P : hz_P} (K : ∀ f : Nat → Int32, (∀ j, j < 9 → f j = 0) → P none z (va_up M b (.inl (0, 9, .inl f)))) : ∀ k i f, k = 9 - i → i ≤ 9 → (∀ j, j < i → f j = 0) → hz_W κ xX12_clearBig 0 0 0 P 0 0 2 [(1, .int (nI i)), (0, .ref b)] [] z (va_up M b (.inl (0, 9, .inl f))) := by
  intro k
  induction k using Nat.strongRecOn with
  | ind k ih =>
  intro i f hk hi hs
  refine hz_iloadn (pc := 2) 0 (hz_dec kX12_clearBig 2 rfl) rfl ?_
  refine hz_bipush (pc := 3) (v := nI 9) (hz_dec kX12_clearBig 3 rfl) (by decide) ?_
  refine hz_n_ge (pc := 5) (tgt := 18) (hz_dec kX12_clearBig 4 rfl) (by decide) (by omega) (by omega) (fun h1 => ?_) (fun h1 => ?_)
  · skip
    have e : i = 9 := by omega
    subst e
    exact hz_vret (pc := 18) (hz_dec kX12_clearBig 11 rfl) rfl (K f hs)
  · skip
    refine hz_aloadn (pc := 8) 1 (hz_dec kX12_clearBig 5 rfl) rfl ?_
    refine hz_iloadn (pc := 9) 0 (hz_dec kX12_clearBig 6 rfl) rfl ?_
    refine hz_iconst (pc := 10) (v := nI 0) (hz_dec kX12_clearBig 7 rfl) (by decide) ?_
    refine hz_iast (pc := 11) (j := i) (hz_dec kX12_clearBig 8 rfl) (va_up_self _ _ _) ha hz rfl (by omega) (by decide) ?_
    refine hz_mem (pc := 12) (M2 := (va_up M b (.inl (0, 9, .inl (upd f i ((nI (0)))))))) (bx_uu _ _ _ _) ?_
    refine hz_incN (pc := 12) (i := 1) (lo2 := [(1, .int (nI (i + 1))), (0, .ref b)]) 0 (hz_dec kX12_clearBig 9 rfl) rfl (by decide) rfl ?_
    refine hz_goto (pc := 15) (tgt := 2) (hz_dec kX12_clearBig 10 rfl) (by decide) ?_
    refine hz_pick (pc := 2) [0, 1] rfl ?_
    refine ih (9 - (i + 1)) (by omega) (i + 1) _ rfl (by omega) (fun j hj => ?_)
    simp only [upd]
    split
    · rfl
    · exact hs j (by omega)
def bg_P (M : hz_M) (z b : Nat) (v : Nat) : hz_P := fun r z2 M2 => none = r ∧ z = z2 ∧ ∃ f : Nat → Int32, bg f 0 9 = v ∧ (va_up M b (.inl (0, 9, .inl f))) = M2
set_option maxHeartbeats 4000000 in
set_option maxRecDepth 100000 in
theorem c_clear {κ : hz_C} {z : Nat} {M : hz_M} {b : Nat} {f0 : Nat → Int32} (hM : M b = .inl (0, 9, .inl f0)) (ha : 8 ≤ b) (hz : b < z) : hz_Mt κ xX12_clearBig 0 0 0 [.ref b] z M (bg_P M z b 0) := by
  refine hz_ent (lo := [(0, .ref b)]) (by decide) (Nat.le_of_ble_eq_true rfl) rfl ?_
  refine hz_iconst (pc := 0) (v := nI 0) (hz_dec kX12_clearBig 0 rfl) (by decide) ?_
  refine hz_istoren (pc := 1) (i := 1) (lo2 := [(1, .int (nI 0)), (0, .ref b)]) (hz_dec kX12_clearBig 1 rfl) rfl (by decide) rfl ?_
  refine hz_pick (pc := 2) [0, 1] rfl ?_
  refine hz_mem (hz_upid hM).symm ?_
  exact l_clear hM ha hz (fun f h => ⟨rfl, rfl, f, bg_zero 9 (fun i hi => by rw [Nat.zero_add]; exact h i hi), rfl⟩) 9 0 f0 rfl (by omega) (fun j hj => absurd hj (by omega))
set_option maxHeartbeats 4000000 in
set_option maxRecDepth 100000 in
theorem l_copyB {κ : hz_C} {z : Nat} {M : hz_M} {b : Nat} {f0 : Nat → Int32} (hM : M b = .inl (0, 9, .inl f0)) (ha : 8 ≤ b) (hz : b < z) {b2 : Nat} {g : Nat → Int32} (hM2 : M b2 = .inl (0, 9, .inl g)) (ha2 : 8 ≤ b2) (hz2 : b2 < z) (hne : b2 ≠ b) {P : hz_P} (K : ∀ f : Nat → Int32, (∀ j, j < 9 → f j = g j) → P none z (va_up M b (.inl (0, 9, .inl f)))) : ∀ k i f, k = 9 - i → i ≤ 9 → (∀ j, j < i → f j = g j) → hz_W κ xX12_copyBig 0 0 0 P 0 0 2 [(2, .int (nI i)), (0, .ref b2), (1, .ref b)] [] z (va_up M b (.inl (0, 9, .inl f))) := by
  intro k
  induction k using Nat.strongRecOn with
  | ind k ih =>
  intro i f hk hi hs
  refine hz_iloadn (pc := 2) 0 (hz_dec kX12_copyBig 2 rfl) rfl ?_
  refine hz_bipush (pc := 3) (v := nI 9) (hz_dec kX12_copyBig 3 rfl) (by decide) ?_
  refine hz_n_ge (pc := 5) (tgt := 20) (hz_dec kX12_copyBig 4 rfl) (by decide) (by omega) (by omega) (fun h1 => ?_) (fun h1 => ?_)
  · skip
    have e : i = 9 := by omega
    subst e
    exact hz_vret (pc := 20) (hz_dec kX12_copyBig 13 rfl) rfl (K f hs)
  · skip
    refine hz_aloadn (pc := 8) 2 (hz_dec kX12_copyBig 5 rfl) rfl ?_
    refine hz_iloadn (pc := 9) 0 (hz_dec kX12_copyBig 6 rfl) rfl ?_
    refine hz_aloadn (pc := 10) 1 (hz_dec kX12_copyBig 7 rfl) rfl ?_
    refine hz_iloadn (pc := 11) 0 (hz_dec kX12_copyBig 8 rfl) rfl ?_
    refine hz_iald (pc := 12) (j := i) (hz_dec kX12_copyBig 9 rfl) (hz_mne hM2 hne) ha2 hz2 rfl (by omega) (by decide) ?_
    refine hz_iast (pc := 13) (j := i) (hz_dec kX12_copyBig 10 rfl) (va_up_self _ _ _) ha hz rfl (by omega) (by decide) ?_
    refine hz_mem (pc := 14) (M2 := (va_up M b (.inl (0, 9, .inl (upd f i ((g i))))))) (bx_uu _ _ _ _) ?_
    refine hz_incN (pc := 14) (i := 2) (lo2 := [(2, .int (nI (i + 1))), (0, .ref b2), (1, .ref b)]) 0 (hz_dec kX12_copyBig 11 rfl) rfl (by decide) rfl ?_
    refine hz_goto (pc := 17) (tgt := 2) (hz_dec kX12_copyBig 12 rfl) (by decide) ?_
    refine hz_pick (pc := 2) [0, 1, 2] rfl ?_
    refine ih (9 - (i + 1)) (by omega) (i + 1) _ rfl (by omega) (fun j hj => ?_)
    simp only [upd]
    split
    · next e => rw [e]
    · exact hs j (by omega)
set_option maxHeartbeats 4000000 in
set_option maxRecDepth 100000 in
theorem c_copyBg {κ : hz_C} {z : Nat} {M : hz_M} {b : Nat} {f0 : Nat → Int32} (hM : M b = .inl (0, 9, .inl f0)) (ha : 8 ≤ b) (hz : b < z) {b2 : Nat} {g : Nat → Int32} (hM2 : M b2 = .inl (0, 9, .inl g)) (ha2 : 8 ≤ b2) (hz2 : b2 < z) (hne : b2 ≠ b) : hz_Mt κ xX12_copyBig 0 0 0 [.ref b2, .ref b] z M (bg_P M z b (bg g 0 9)) := by
  refine hz_ent (lo := [(0, .ref b2), (1, .ref b)]) (by decide) (Nat.le_of_ble_eq_true rfl) rfl ?_
  refine hz_iconst (pc := 0) (v := nI 0) (hz_dec kX12_copyBig 0 rfl) (by decide) ?_
  refine hz_istoren (pc := 1) (i := 2) (lo2 := [(2, .int (nI 0)), (0, .ref b2), (1, .ref b)]) (hz_dec kX12_copyBig 1 rfl) rfl (by decide) rfl ?_
  refine hz_pick (pc := 2) [0, 1, 2] rfl ?_
  refine hz_mem (hz_upid hM).symm ?_
  exact l_copyB hM ha hz hM2 ha2 hz2 hne (fun f h => ⟨rfl, rfl, f, bg_c 9 (fun i hi => by rw [Nat.zero_add]; exact h i hi), rfl⟩) 9 0 f0 rfl (by omega) (fun j hj => absurd hj (by omega))
set_option maxHeartbeats 4000000 in
set_option maxRecDepth 100000 in
theorem c_addB_l {κ : hz_C} {z : Nat} {M : hz_M} {b : Nat} {f0 : Nat → Int32} (hM : M b = .inl (0, 9, .inl f0)) (ha : 8 ≤ b) (hz : b < z) {b2 : Nat} {g : Nat → Int32} (hM2 : M b2 = .inl (0, 9, .inl g)) (ha2 : 8 ≤ b2) (hz2 : b2 < z) (hne : b2 ≠ b) {P : hz_P} (K : ∀ (f : Nat → Int32) (c : Nat), bg f 0 9 + c * 4294967296 ^ 9 = bg f0 0 9 + bg g 0 9 → P none z (va_up M b (.inl (0, 9, .inl f)))) : ∀ (k : Nat) (c : Nat) (f : Nat → Int32) (ix : Int32), ix = nI k - 1 → k ≤ 9 → c ≤ 1 → (∀ j, j < k → f j = f0 j) → bg f k (9 - k) + c * 4294967296 ^ (9 - k) = bg f0 k (9 - k) + bg g k (9 - k) → hz_W κ xX12_addBig 0 0 0 P 0 0 6 [(4, .int ix), (2, .long (lN c)), (0, .ref b), (1, .ref b2)] [] z (va_up M b (.inl (0, 9, .inl f))) := by
  intro k
  induction k with
  | zero =>
    intro c f ix hx hk hc hs hi
    refine hz_iload (pc := 6) 0 (hz_dec kX12_addBig 4 rfl) rfl ?_
    refine hz_if_lt (pc := 8) (tgt := 50) (hz_dec kX12_addBig 5 rfl) (by decide) (fun h1 => ?_) (fun h1 => ?_)
    · skip
      exact hz_vret (pc := 50) (hz_dec kX12_addBig 33 rfl) rfl (K f c hi)
    · skip
      exact absurd (by rw [hx]; decide) h1
  | succ k ih =>
    intro c f ix hx hk hc hs hi
    rw [nI_pred] at hx
    refine hz_iload (pc := 6) 0 (hz_dec kX12_addBig 4 rfl) rfl ?_
    refine hz_if_lt (pc := 8) (tgt := 50) (hz_dec kX12_addBig 5 rfl) (by decide) (fun h1 => ?_) (fun h1 => ?_)
    · skip
      exact absurd h1 (by rw [hx]; exact nI_pos (by omega))
    · skip
      subst hx
      have hu1 := un_lt (f k)
      have hu2 := un_lt (g k)
      refine hz_lloadn (pc := 11) 1 (hz_dec kX12_addBig 6 rfl) rfl ?_
      refine hz_aloadn (pc := 12) 2 (hz_dec kX12_addBig 7 rfl) rfl ?_
      refine hz_iload (pc := 13) 0 (hz_dec kX12_addBig 8 rfl) rfl ?_
      refine hz_iald (pc := 15) (j := k) (hz_dec kX12_addBig 9 rfl) (va_up_self _ _ _) ha hz rfl (by omega) (by decide) ?_
      refine hz_i2l (pc := 16) (hz_dec kX12_addBig 10 rfl) ?_
      refine hz_ldc2 (pc := 17) (v := (4294967295)) (hz_dec kX12_addBig 11 rfl) ks_X12_358 ?_
      refine hz_land (pc := 20) (hz_dec kX12_addBig 12 rfl) ?_
      refine hz_eql (pc := 21) (i_lo32 (f k)) ?_
      refine hz_aloadn (pc := 21) 3 (hz_dec kX12_addBig 13 rfl) rfl ?_
      refine hz_iload (pc := 22) 0 (hz_dec kX12_addBig 14 rfl) rfl ?_
      refine hz_iald (pc := 24) (j := k) (hz_dec kX12_addBig 15 rfl) (hz_mne hM2 hne) ha2 hz2 rfl (by omega) (by decide) ?_
      refine hz_i2l (pc := 25) (hz_dec kX12_addBig 16 rfl) ?_
      refine hz_ldc2 (pc := 26) (v := (4294967295)) (hz_dec kX12_addBig 17 rfl) ks_X12_358 ?_
      refine hz_land (pc := 29) (hz_dec kX12_addBig 18 rfl) ?_
      refine hz_eql (pc := 30) (i_lo32 (g k)) ?_
      refine hz_ladd (pc := 30) (hz_dec kX12_addBig 19 rfl) ?_
      refine hz_eql (pc := 31) (lN_add _ _) ?_
      refine hz_ladd (pc := 31) (hz_dec kX12_addBig 20 rfl) ?_
      refine hz_eql (pc := 32) (lN_add _ _) ?_
      refine hz_lstoren (pc := 32) (i := 2) (lo2 := [(2, .long (lN ((c) + ((un (f k)) + (un (g k)))))), (4, .int (nI k)), (0, .ref b), (1, .ref b2)]) (hz_dec kX12_addBig 21 rfl) rfl (by decide) rfl ?_
      refine hz_aloadn (pc := 33) 2 (hz_dec kX12_addBig 22 rfl) rfl ?_
      refine hz_iload (pc := 34) 1 (hz_dec kX12_addBig 23 rfl) rfl ?_
      refine hz_lloadn (pc := 36) 0 (hz_dec kX12_addBig 24 rfl) rfl ?_
      refine hz_l2i (pc := 37) (hz_dec kX12_addBig 25 rfl) ?_
      refine hz_eqi (pc := 38) (lN_i _) ?_
      refine hz_iast (pc := 38) (j := k) (hz_dec kX12_addBig 26 rfl) (va_up_self _ _ _) ha hz rfl (by omega) (by decide) ?_
      refine hz_lloadn (pc := 39) 0 (hz_dec kX12_addBig 27 rfl) rfl ?_
      refine hz_bipush (pc := 40) (v := nI 32) (hz_dec kX12_addBig 28 rfl) (by decide) ?_
      refine hz_lushr (pc := 42) (hz_dec kX12_addBig 29 rfl) ?_
      refine hz_eql (pc := 43) (wb_shr (by omega) (by decide)) ?_
      refine hz_lstoren (pc := 43) (i := 2) (lo2 := [(2, .long (lN (((c) + ((un (f k)) + (un (g k)))) / 2 ^ 32))), (4, .int (nI k)), (0, .ref b), (1, .ref b2)]) (hz_dec kX12_addBig 30 rfl) rfl (by decide) rfl ?_
      refine hz_mem (pc := 44) (M2 := (va_up M b (.inl (0, 9, .inl (upd f k ((nI ((c) + ((un (f k)) + (un (g k))))))))))) (bx_uu _ _ _ _) ?_
      refine hz_iinc (pc := 44) (i := 4) (w := nI k - 1) (lo2 := [(4, .int (nI k - 1)), (2, .long (lN (((c) + ((un (f k)) + (un (g k)))) / 2 ^ 32))), (0, .ref b), (1, .ref b2)]) 1 (hz_dec kX12_addBig 31 rfl) rfl (hz_m1 k) (by decide) rfl ?_
      refine hz_goto (pc := 47) (tgt := 6) (hz_dec kX12_addBig 32 rfl) (by decide) ?_
      refine hz_pick (pc := 6) [0, 1, 2, 3] rfl ?_
      have ef : f k = f0 k := hs k (by omega)
      have st := ad_step (f := f) (fa := f0) (fb := g) (k := k) (m := 9 - (k + 1)) rfl hi
      rw [show 9 - (k + 1) + 1 = 9 - k by omega] at st
      refine ih _ _ _ rfl (by omega) (by omega) (fun j hj => ?_) ?_
      · simp only [upd]; rw [if_neg (by omega)]; exact hs j (by omega)
      · rw [ef]; exact st
set_option maxHeartbeats 4000000 in
set_option maxRecDepth 100000 in
theorem c_addB {κ : hz_C} {z : Nat} {M : hz_M} {b : Nat} {f0 : Nat → Int32} (hM : M b = .inl (0, 9, .inl f0)) (ha : 8 ≤ b) (hz : b < z) {b2 : Nat} {g : Nat → Int32} (hM2 : M b2 = .inl (0, 9, .inl g)) (ha2 : 8 ≤ b2) (hz2 : b2 < z) (hne : b2 ≠ b) : hz_Mt κ xX12_addBig 0 0 0 [.ref b, .ref b2] z M (bg_P M z b ((bg f0 0 9 + bg g 0 9) % 4294967296 ^ 9)) := by
  refine hz_ent (lo := [(0, .ref b), (1, .ref b2)]) (by decide) (Nat.le_of_ble_eq_true rfl) rfl ?_
  refine hz_lconst (pc := 0) (v := lN 0) (hz_dec kX12_addBig 0 rfl) (by decide) ?_
  refine hz_lstoren (pc := 1) (i := 2) (lo2 := [(2, .long (lN 0)), (0, .ref b), (1, .ref b2)]) (hz_dec kX12_addBig 1 rfl) rfl (by decide) rfl ?_
  refine hz_bipush (pc := 2) (v := nI 8) (hz_dec kX12_addBig 2 rfl) (by decide) ?_
  refine hz_istore (pc := 4) (i := 4) (lo2 := [(4, .int (nI 8)), (2, .long (lN 0)), (0, .ref b), (1, .ref b2)]) (hz_dec kX12_addBig 3 rfl) (by decide) rfl ?_
  refine hz_pick (pc := 6) [0, 1, 2, 3] rfl ?_
  refine hz_mem (hz_upid hM).symm ?_
  exact c_addB_l hM ha hz hM2 ha2 hz2 hne (fun f c h => ⟨rfl, rfl, f, by rw [← h, Nat.add_mul_mod_self_right, Nat.mod_eq_of_lt (bg_lt f 0 9)], rfl⟩) 9 0 f0 _ (by decide) (by omega) (by omega) (fun _ _ => rfl) rfl
set_option maxHeartbeats 4000000 in
set_option maxRecDepth 100000 in
theorem c_addS_l {κ : hz_C} {z : Nat} {M : hz_M} {b : Nat} {f0 : Nat → Int32} (hM : M b = .inl (0, 9, .inl f0)) (ha : 8 ≤ b) (hz : b < z) {P : hz_P} (K : ∀ (f : Nat → Int32) (c : Nat), bg f 0 9 + c * 4294967296 ^ 9 = bg f0 0 9 + bg f0 0 9 → P none z (va_up M b (.inl (0, 9, .inl f)))) : ∀ (k : Nat) (c : Nat) (f : Nat → Int32) (ix : Int32), ix = nI k - 1 → k ≤ 9 → c ≤ 1 → (∀ j, j < k → f j = f0 j) → bg f k (9 - k) + c * 4294967296 ^ (9 - k) = bg f0 k (9 - k) + bg f0 k (9 - k) → hz_W κ xX12_addBig 0 0 0 P 0 0 6 [(4, .int ix), (2, .long (lN c)), (0, .ref b), (1, .ref b)] [] z (va_up M b (.inl (0, 9, .inl f))) := by
  intro k
  induction k with
  | zero =>
    intro c f ix hx hk hc hs hi
    refine hz_iload (pc := 6) 0 (hz_dec kX12_addBig 4 rfl) rfl ?_
    refine hz_if_lt (pc := 8) (tgt := 50) (hz_dec kX12_addBig 5 rfl) (by decide) (fun h1 => ?_) (fun h1 => ?_)
    · skip
      exact hz_vret (pc := 50) (hz_dec kX12_addBig 33 rfl) rfl (K f c hi)
    · skip
      exact absurd (by rw [hx]; decide) h1
  | succ k ih =>
    intro c f ix hx hk hc hs hi
    rw [nI_pred] at hx
    refine hz_iload (pc := 6) 0 (hz_dec kX12_addBig 4 rfl) rfl ?_
    refine hz_if_lt (pc := 8) (tgt := 50) (hz_dec kX12_addBig 5 rfl) (by decide) (fun h1 => ?_) (fun h1 => ?_)
    · skip
      exact absurd h1 (by rw [hx]; exact nI_pos (by omega))
    · skip
      subst hx
      have hu1 := un_lt (f k)
      have hu2 := un_lt (f k)
      refine hz_lloadn (pc := 11) 1 (hz_dec kX12_addBig 6 rfl) rfl ?_
      refine hz_aloadn (pc := 12) 2 (hz_dec kX12_addBig 7 rfl) rfl ?_
      refine hz_iload (pc := 13) 0 (hz_dec kX12_addBig 8 rfl) rfl ?_
      refine hz_iald (pc := 15) (j := k) (hz_dec kX12_addBig 9 rfl) (va_up_self _ _ _) ha hz rfl (by omega) (by decide) ?_
      refine hz_i2l (pc := 16) (hz_dec kX12_addBig 10 rfl) ?_
      refine hz_ldc2 (pc := 17) (v := (4294967295)) (hz_dec kX12_addBig 11 rfl) ks_X12_358 ?_
      refine hz_land (pc := 20) (hz_dec kX12_addBig 12 rfl) ?_
      refine hz_eql (pc := 21) (i_lo32 (f k)) ?_
      refine hz_aloadn (pc := 21) 3 (hz_dec kX12_addBig 13 rfl) rfl ?_
      refine hz_iload (pc := 22) 0 (hz_dec kX12_addBig 14 rfl) rfl ?_
      refine hz_iald (pc := 24) (j := k) (hz_dec kX12_addBig 15 rfl) (va_up_self _ _ _) ha hz rfl (by omega) (by decide) ?_
      refine hz_i2l (pc := 25) (hz_dec kX12_addBig 16 rfl) ?_
      refine hz_ldc2 (pc := 26) (v := (4294967295)) (hz_dec kX12_addBig 17 rfl) ks_X12_358 ?_
      refine hz_land (pc := 29) (hz_dec kX12_addBig 18 rfl) ?_
      refine hz_eql (pc := 30) (i_lo32 (f k)) ?_
      refine hz_ladd (pc := 30) (hz_dec kX12_addBig 19 rfl) ?_
      refine hz_eql (pc := 31) (lN_add _ _) ?_
      refine hz_ladd (pc := 31) (hz_dec kX12_addBig 20 rfl) ?_
      refine hz_eql (pc := 32) (lN_add _ _) ?_
      refine hz_lstoren (pc := 32) (i := 2) (lo2 := [(2, .long (lN ((c) + ((un (f k)) + (un (f k)))))), (4, .int (nI k)), (0, .ref b), (1, .ref b)]) (hz_dec kX12_addBig 21 rfl) rfl (by decide) rfl ?_
      refine hz_aloadn (pc := 33) 2 (hz_dec kX12_addBig 22 rfl) rfl ?_
      refine hz_iload (pc := 34) 1 (hz_dec kX12_addBig 23 rfl) rfl ?_
      refine hz_lloadn (pc := 36) 0 (hz_dec kX12_addBig 24 rfl) rfl ?_
      refine hz_l2i (pc := 37) (hz_dec kX12_addBig 25 rfl) ?_
      refine hz_eqi (pc := 38) (lN_i _) ?_
      refine hz_iast (pc := 38) (j := k) (hz_dec kX12_addBig 26 rfl) (va_up_self _ _ _) ha hz rfl (by omega) (by decide) ?_
      refine hz_lloadn (pc := 39) 0 (hz_dec kX12_addBig 27 rfl) rfl ?_
      refine hz_bipush (pc := 40) (v := nI 32) (hz_dec kX12_addBig 28 rfl) (by decide) ?_
      refine hz_lushr (pc := 42) (hz_dec kX12_addBig 29 rfl) ?_
      refine hz_eql (pc := 43) (wb_shr (by omega) (by decide)) ?_
      refine hz_lstoren (pc := 43) (i := 2) (lo2 := [(2, .long (lN (((c) + ((un (f k)) + (un (f k)))) / 2 ^ 32))), (4, .int (nI k)), (0, .ref b), (1, .ref b)]) (hz_dec kX12_addBig 30 rfl) rfl (by decide) rfl ?_
      refine hz_mem (pc := 44) (M2 := (va_up M b (.inl (0, 9, .inl (upd f k ((nI ((c) + ((un (f k)) + (un (f k))))))))))) (bx_uu _ _ _ _) ?_
      refine hz_iinc (pc := 44) (i := 4) (w := nI k - 1) (lo2 := [(4, .int (nI k - 1)), (2, .long (lN (((c) + ((un (f k)) + (un (f k)))) / 2 ^ 32))), (0, .ref b), (1, .ref b)]) 1 (hz_dec kX12_addBig 31 rfl) rfl (hz_m1 k) (by decide) rfl ?_
      refine hz_goto (pc := 47) (tgt := 6) (hz_dec kX12_addBig 32 rfl) (by decide) ?_
      refine hz_pick (pc := 6) [0, 1, 2, 3] rfl ?_
      have ef : f k = f0 k := hs k (by omega)
      have st := ad_step (f := f) (fa := f0) (fb := f0) (k := k) (m := 9 - (k + 1)) rfl hi
      rw [show 9 - (k + 1) + 1 = 9 - k by omega] at st
      refine ih _ _ _ rfl (by omega) (by omega) (fun j hj => ?_) ?_
      · simp only [upd]; rw [if_neg (by omega)]; exact hs j (by omega)
      · rw [ef]; exact st
set_option maxHeartbeats 4000000 in
set_option maxRecDepth 100000 in
theorem c_addS {κ : hz_C} {z : Nat} {M : hz_M} {b : Nat} {f0 : Nat → Int32} (hM : M b = .inl (0, 9, .inl f0)) (ha : 8 ≤ b) (hz : b < z) : hz_Mt κ xX12_addBig 0 0 0 [.ref b, .ref b] z M (bg_P M z b ((bg f0 0 9 + bg f0 0 9) % 4294967296 ^ 9)) := by
  refine hz_ent (lo := [(0, .ref b), (1, .ref b)]) (by decide) (Nat.le_of_ble_eq_true rfl) rfl ?_
  refine hz_lconst (pc := 0) (v := lN 0) (hz_dec kX12_addBig 0 rfl) (by decide) ?_
  refine hz_lstoren (pc := 1) (i := 2) (lo2 := [(2, .long (lN 0)), (0, .ref b), (1, .ref b)]) (hz_dec kX12_addBig 1 rfl) rfl (by decide) rfl ?_
  refine hz_bipush (pc := 2) (v := nI 8) (hz_dec kX12_addBig 2 rfl) (by decide) ?_
  refine hz_istore (pc := 4) (i := 4) (lo2 := [(4, .int (nI 8)), (2, .long (lN 0)), (0, .ref b), (1, .ref b)]) (hz_dec kX12_addBig 3 rfl) (by decide) rfl ?_
  refine hz_pick (pc := 6) [0, 1, 2, 3] rfl ?_
  refine hz_mem (hz_upid hM).symm ?_
  exact c_addS_l hM ha hz (fun f c h => ⟨rfl, rfl, f, by rw [← h, Nat.add_mul_mod_self_right, Nat.mod_eq_of_lt (bg_lt f 0 9)], rfl⟩) 9 0 f0 _ (by decide) (by omega) (by omega) (fun _ _ => rfl) rfl
