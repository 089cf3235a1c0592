/-! bytes and numbers -/
def un (x : Int32) : Nat := x.toBitVec.toNat
def uL (v : Int64) : Nat := v.toBitVec.toNat
theorem un_lt (x : Int32) : un x < 4294967296 := x.toBitVec.isLt
theorem uL_lt (x : Int64) : uL x < 18446744073709551616 := x.toBitVec.isLt
theorem un_inj {x y : Int32} (h : un x = un y) : x = y := Int32.toBitVec_inj.mp (BitVec.eq_of_toNat_eq h)
theorem uL_inj {x y : Int64} (h : uL x = uL y) : x = y := Int64.toBitVec_inj.mp (BitVec.eq_of_toNat_eq h)
theorem un_nI {n : Nat} (h : n < 4294967296) : un (nI n) = n := pk_tn h
theorem nI_un (x : Int32) : nI (un x) = x := un_inj (un_nI (un_lt x))
theorem uL_lN {n : Nat} (h : n < 18446744073709551616) : uL (lN n) = n := wb_tn h
theorem lN_uL (x : Int64) : lN (uL x) = x := uL_inj (uL_lN (uL_lt x))
theorem bb_un (x : Int32) : bb x = un x % 256 := rfl
theorem nb_inj {a b : Nat} (ha : a < 2 ^ 31) (hb : b < 2 ^ 31) (h : nI a = nI b) : a = b := (nI_eq ha hb).mp h
theorem bb_i8 (x : Int32) : bb x.toInt8.toInt32 = bb x := by
  have h1 := bb_lt x.toInt8.toInt32
  have h2 := bb_lt x
  refine nb_inj (by omega) (by omega) ?_
  rw [← bb_and, ← bb_and]
  exact bp_b x
theorem bb_sb {c : Nat} (h : c < 256) : bb (sb_b c) = c := by
  have h1 := bb_lt (sb_b c)
  refine nb_inj (by omega) (by omega) ?_
  rw [← bb_and]
  exact (sb_byte c h).1
/-- a byte is known by its number -/
theorem sb_bb {a : Int32} (h : a.toInt8.toInt32 = a) : sb_b (bb a) = a := ((sc_eq h (bb_lt a)).mpr (bb_and a)).symm
theorem bb_eq {a b : Int32} (ha : a.toInt8.toInt32 = a) (hb : b.toInt8.toInt32 = b) (h : bb a = bb b) : a = b := by
  rw [← sb_bb ha, ← sb_bb hb, h]
theorem i8_i8 (x : Int32) : x.toInt8.toInt32.toInt8.toInt32 = x.toInt8.toInt32 := by simp
theorem sr_lo {w : Nat} (X : BitVec w) (k : Nat) (h : k + 8 ≤ w) : (X.sshiftRight k).toNat % 256 = X.toNat / 2 ^ k % 256 := by
  have e : (X.sshiftRight k).setWidth 8 = (X >>> k).setWidth 8 := by
    apply BitVec.eq_of_getLsbD_eq
    intro i hi
    rw [BitVec.getLsbD_setWidth, BitVec.getLsbD_setWidth, BitVec.getLsbD_sshiftRight, BitVec.getLsbD_ushiftRight]
    rw [if_pos (by omega)]
    have : ¬ w ≤ i := by omega
    simp [this]
  have e2 := congrArg BitVec.toNat e
  rw [BitVec.toNat_setWidth, BitVec.toNat_setWidth, BitVec.toNat_ushiftRight, Nat.shiftRight_eq_div_pow] at e2
  exact e2
theorem bb_shr (x : Int32) {k : Nat} (hk : k ≤ 24) : bb (x >>> (nI k &&& 31)) = un x / 2 ^ k % 256 := by
  have e : (x >>> (nI k &&& 31)).toBitVec = x.toBitVec.sshiftRight k := by
    rw [Int32.toBitVec_shiftRight]
    unfold BitVec.sshiftRight'
    rw [s_l k (by omega)]
  show (x >>> (nI k &&& 31)).toBitVec.toNat % 256 = _
  rw [e]
  exact sr_lo _ _ (by omega)
theorem bb_l (v : Int64) : bb v.toInt32 = uL v % 256 := by
  show (v.toInt32).toBitVec.toNat % 256 = v.toBitVec.toNat % 256
  rw [Int64.toBitVec_toInt32, BitVec.signExtend_eq_setWidth_of_le _ (by decide), BitVec.toNat_setWidth]
  omega
theorem l_sm {k : Nat} (hk : k < 64) : (((nI k).toInt64 &&& 63).toBitVec.smod 64).toNat = k := by
  rw [wb_c k hk, wb_tb, wb_sm k hk, BitVec.toNat_ofNat]
  omega
theorem bb_shrL (v : Int64) {k : Nat} (hk : k ≤ 56) : bb (v >>> ((nI k).toInt64 &&& 63)).toInt32 = uL v / 2 ^ k % 256 := by
  rw [bb_l]
  show (v >>> ((nI k).toInt64 &&& 63)).toBitVec.toNat % 256 = v.toBitVec.toNat / 2 ^ k % 256
  have e : (v >>> ((nI k).toInt64 &&& 63)).toBitVec = v.toBitVec.sshiftRight k := by
    rw [Int64.toBitVec_shiftRight]
    unfold BitVec.sshiftRight'
    rw [l_sm (by omega)]
  rw [e]
  exact sr_lo _ _ (by omega)
theorem shL_shL (v : Int64) {j k : Nat} (h : j + k < 64) : (v >>> ((nI j).toInt64 &&& 63)) >>> ((nI k).toInt64 &&& 63) = v >>> ((nI (j + k)).toInt64 &&& 63) := by
  apply Int64.toBitVec_inj.mp
  rw [Int64.toBitVec_shiftRight, Int64.toBitVec_shiftRight, Int64.toBitVec_shiftRight]
  unfold BitVec.sshiftRight'
  rw [l_sm (by omega), l_sm (by omega), l_sm (by omega), BitVec.sshiftRight_add]
/-- a number of so many bytes, the highest first -/
def bn_num (f : Nat → Int32) (at_ : Nat) : Nat → Int64
  | 0 => 0
  | k + 1 => (bn_num f at_ k <<< ((nI 8).toInt64 &&& 63)) ||| (nI (bb (f (at_ + k)))).toInt64
/-- the bytes of a number put down, the lowest last -/
def bn_put (at_ : Nat) : Nat → Int64 → (Nat → Int32) → Nat → Int32
  | 0, _, f => f
  | k + 1, v, f => bn_put at_ k (v >>> ((nI 8).toInt64 &&& 63)) (upd f (at_ + k) v.toInt32.toInt8.toInt32.toInt8.toInt32)
/-- a number out of bytes, as a Nat -/
def bn_nat (f : Nat → Int32) (at_ : Nat) : Nat → Nat
  | 0 => 0
  | k + 1 => bn_nat f at_ k * 256 + bb (f (at_ + k))
theorem bn_nat_lt (f : Nat → Int32) (at_ : Nat) : ∀ k, bn_nat f at_ k < 256 ^ k := by
  intro k
  induction k with
  | zero => exact Nat.zero_lt_one
  | succ k ih =>
    have h := bb_lt (f (at_ + k))
    simp only [bn_nat]
    rw [Nat.pow_succ]
    omega
theorem bn_nat_c {f g : Nat → Int32} {a b : Nat} : ∀ k, (∀ i, i < k → bb (f (a + i)) = bb (g (b + i))) → bn_nat f a k = bn_nat g b k := by
  intro k
  induction k with
  | zero => intro _; rfl
  | succ k ih =>
    intro h
    simp only [bn_nat, ih (fun i hi => h i (by omega)), h k (by omega)]

/-- numbers out of bytes: the long, and the int out of four -/
theorem bn_num_n {f : Nat → Int32} {at_ : Nat} : ∀ k, k ≤ 8 → bn_num f at_ k = lN (bn_nat f at_ k) := by
  intro k
  induction k with
  | zero => intro _; rfl
  | succ k ih =>
    intro hk
    have h1 := bn_nat_lt f at_ k
    have h2 := bb_lt (f (at_ + k))
    have h3 : 256 ^ k ≤ 256 ^ 7 := Nat.pow_le_pow_right (by decide) (by omega)
    have h4 : (256 : Nat) ^ 7 = 72057594037927936 := by decide
    have e1 : (nI (bb (f (at_ + k)))).toInt64 = lN (bb (f (at_ + k))) := nI_l (by omega)
    simp only [bn_num, bn_nat]
    rw [ih (by omega), wb_shl _ (by decide), e1, g_or (k := 8) (p := 256) (by decide) h2 (by omega)]
/-- the bytes of a number put down -/
theorem bn_put_in {at_ : Nat} : ∀ (k : Nat) (v : Int64) (f : Nat → Int32) (j : Nat), k ≤ 8 → j < k → bn_put at_ k v f (at_ + j) = (v >>> ((nI (8 * (k - 1 - j))).toInt64 &&& 63)).toInt32.toInt8.toInt32.toInt8.toInt32 := by
  intro k
  induction k with
  | zero => intro v f j _ hj; omega
  | succ k ih =>
    intro v f j hk hj
    simp only [bn_put]
    rcases Nat.lt_or_ge j k with h | h
    · rw [ih _ _ j (by omega) h, shL_shL v (by omega), show 8 + 8 * (k - 1 - j) = 8 * (k + 1 - 1 - j) by omega]
    · have e : j = k := by omega
      subst e
      have hout : ∀ (m : Nat) (v : Int64) (g : Nat → Int32) (q : Nat), at_ + m ≤ q → bn_put at_ m v g q = g q := by
        intro m
        induction m with
        | zero => intro v g q _; rfl
        | succ m ihm =>
          intro v g q hq
          simp only [bn_put]
          rw [ihm _ _ q (by omega)]
          simp only [upd]
          rw [if_neg (by omega)]
      rw [hout _ _ _ _ (by omega)]
      have e0 : v >>> ((nI (8 * (j + 1 - 1 - j))).toInt64 &&& 63) = v := by
        rw [show 8 * (j + 1 - 1 - j) = 0 by omega]
        apply Int64.toBitVec_inj.mp
        rw [Int64.toBitVec_shiftRight]
        unfold BitVec.sshiftRight'
        rw [l_sm (by decide)]
        simp
      rw [e0]
      simp [upd]
theorem bn_put_out {at_ : Nat} : ∀ (m : Nat) (v : Int64) (g : Nat → Int32) (q : Nat), (q < at_ ∨ at_ + m ≤ q) → bn_put at_ m v g q = g q := by
  intro m
  induction m with
  | zero => intro v g q _; rfl
  | succ m ihm =>
    intro v g q hq
    simp only [bn_put]
    rw [ihm _ _ q (by omega)]
    simp only [upd]
    rw [if_neg (by omega)]
