/-! keys: parts, steps, addresses, as numbers -/
/-- byte j of a long, the highest first -/
def byl (v : Int64) (j : Nat) : Nat := uL v / 2 ^ (8 * (7 - j)) % 256
theorem byl_lt (v : Int64) (j : Nat) : byl v j < 256 := Nat.mod_lt _ (by decide)
/-- the hash of n bytes that are given as numbers -/
def hs (g : Nat → Nat) (n : Nat) : Nat → Int32 := sh_h (fun j => sb_b (g j % 256)) 0 n
theorem hs_of {f : Nat → Int32} {g : Nat → Nat} {a n : Nat} (h : ∀ i, i < n → bb (f (a + i)) = g i % 256) : sh_h f a n = hs g n := sh_h_c (fun i hi => by rw [h i hi, Nat.zero_add, bb_sb (Nat.mod_lt _ (by decide))])
def ky_b (seed : Int64) (i : Nat) : Int64 := sh_lim (hs (fun j => if j < 8 then byl seed j else i) 9) 0
def ky_s (v : Int64) (i j : Nat) : Int64 := sh_lim (hs (fun q => if q < 8 then byl v q else if q = 8 then i else 16 + j) 10) 0
def ky_ss (v : Int64) (i a : Nat) : Nat → Int64
  | 0 => v
  | k + 1 => ky_s (ky_ss v i a k) i (a + k)
def ky_ad (e : Nat → Int64) : Int64 := sh_lim (hs (fun q => byl (e (q / 8)) (q % 8)) 64) 0
def ky_a (seed : Int64) : Int64 := ky_ad (fun i => ky_ss (ky_b seed i) i 0 15)
theorem ky_ad_c {e g : Nat → Int64} (h : ∀ i, i < 8 → e i = g i) : ky_ad e = ky_ad g := by
  unfold ky_ad
  rw [show hs (fun q => byl (e (q / 8)) (q % 8)) 64 = hs (fun q => byl (g (q / 8)) (q % 8)) 64 from sh_h_c (fun i hi => by simp only [Nat.zero_add]; rw [h (i / 8) (by omega)])]
theorem bn_put_b {at_ : Nat} {v : Int64} {f : Nat → Int32} {j : Nat} (hj : j < 8) : bb (bn_put at_ 8 v f (at_ + j)) = byl v j := by
  rw [bn_put_in 8 v f j (by omega) hj, bb_i8, bb_i8, bb_shrL _ (by omega)]
  rfl

set_option maxHeartbeats 4000000 in
set_option maxRecDepth 100000 in
theorem l_longAt {κ : hz_C} {z : Nat} {M : hz_M} {b n : Nat} {f : Nat → Int32} (hM : M b = .inl (1, n, .inl f)) (ha : 8 ≤ b) (hz : b < z) (hn : n < 2 ^ 31) {at_ : Nat} (hr : at_ + 8 ≤ n) : ∀ k i, k = 8 - i → i ≤ 8 → hz_W κ xX12_longAt 0 0 0 (hz_ex (some (.long (bn_num f at_ 8))) z M) 0 0 5 [(4, .int (nI i)), (2, .long (bn_num f at_ i)), (0, .ref b), (1, .int (nI at_))] [] z M := by
  intro k
  induction k using Nat.strongRecOn with
  | ind k ih =>
  intro i hk hi
  refine hz_iload (pc := 5) 0 (hz_dec kX12_longAt 4 rfl) rfl ?_
  refine hz_bipush (pc := 7) (v := nI 8) (hz_dec kX12_longAt 5 rfl) (by decide) ?_
  refine hz_n_ge (pc := 9) (tgt := 35) (hz_dec kX12_longAt 6 rfl) (by decide) (by omega) (by omega) (fun h1 => ?_) (fun h1 => ?_)
  · skip
    have e : i = 8 := by omega
    subst e
    refine hz_lloadn (pc := 35) 1 (hz_dec kX12_longAt 22 rfl) rfl ?_
    exact hz_lret (pc := 36) (hz_dec kX12_longAt 23 rfl) rfl ⟨rfl, rfl, rfl⟩
  · skip
    refine hz_lloadn (pc := 12) 1 (hz_dec kX12_longAt 7 rfl) rfl ?_
    refine hz_bipush (pc := 13) (v := nI 8) (hz_dec kX12_longAt 8 rfl) (by decide) ?_
    refine hz_lshl (pc := 15) (hz_dec kX12_longAt 9 rfl) ?_
    refine hz_aloadn (pc := 16) 2 (hz_dec kX12_longAt 10 rfl) rfl ?_
    refine hz_iloadn (pc := 17) 3 (hz_dec kX12_longAt 11 rfl) rfl ?_
    refine hz_iload (pc := 18) 0 (hz_dec kX12_longAt 12 rfl) rfl ?_
    refine hz_addN (pc := 20) (hz_dec kX12_longAt 13 rfl) ?_
    refine hz_bald (pc := 21) (j := at_ + i) (hz_dec kX12_longAt 14 rfl) hM ha hz rfl (by omega) hn ?_
    refine hz_sipush (pc := 22) (v := nI 255) (hz_dec kX12_longAt 15 rfl) (by decide) ?_
    refine hz_andB (pc := 25) (hz_dec kX12_longAt 16 rfl) ?_
    refine hz_i2l (pc := 26) (hz_dec kX12_longAt 17 rfl) ?_
    refine hz_lor (pc := 27) (hz_dec kX12_longAt 18 rfl) ?_
    refine hz_lstoren (pc := 28) (i := 2) (lo2 := [(2, .long (((bn_num f at_ i) <<< ((nI (8)).toInt64 &&& 63)) ||| ((nI (bb (f (at_ + i)))).toInt64))), (4, .int (nI i)), (0, .ref b), (1, .int (nI at_))]) (hz_dec kX12_longAt 19 rfl) rfl (by decide) rfl ?_
    refine hz_incN (pc := 29) (i := 4) (lo2 := [(4, .int (nI (i + 1))), (2, .long (((bn_num f at_ i) <<< ((nI (8)).toInt64 &&& 63)) ||| ((nI (bb (f (at_ + i)))).toInt64))), (0, .ref b), (1, .int (nI at_))]) 1 (hz_dec kX12_longAt 20 rfl) rfl (by decide) rfl ?_
    refine hz_goto (pc := 32) (tgt := 5) (hz_dec kX12_longAt 21 rfl) (by decide) ?_
    refine hz_pick (pc := 5) [0, 1, 2, 3] rfl ?_
    exact ih (8 - (i + 1)) (by omega) (i + 1) rfl (by omega)
set_option maxHeartbeats 4000000 in
set_option maxRecDepth 100000 in
theorem c_longAt {κ : hz_C} {z : Nat} {M : hz_M} {b n : Nat} {f : Nat → Int32} (hM : M b = .inl (1, n, .inl f)) (ha : 8 ≤ b) (hz : b < z) (hn : n < 2 ^ 31) {at_ : Nat} (hr : at_ + 8 ≤ n) : hz_Mt κ xX12_longAt 0 0 0 [.ref b, .int (nI at_)] z M (hz_ex (some (.long (bn_num f at_ 8))) z M) := by
  refine hz_ent (lo := [(0, .ref b), (1, .int (nI at_))]) (by decide) (Nat.le_of_ble_eq_true rfl) rfl ?_
  refine hz_lconst (pc := 0) (v := 0) (hz_dec kX12_longAt 0 rfl) (by decide) ?_
  refine hz_lstoren (pc := 1) (i := 2) (lo2 := [(2, .long 0), (0, .ref b), (1, .int (nI at_))]) (hz_dec kX12_longAt 1 rfl) rfl (by decide) rfl ?_
  refine hz_iconst (pc := 2) (v := nI 0) (hz_dec kX12_longAt 2 rfl) (by decide) ?_
  refine hz_istore (pc := 3) (i := 4) (lo2 := [(4, .int (nI 0)), (2, .long 0), (0, .ref b), (1, .int (nI at_))]) (hz_dec kX12_longAt 3 rfl) (by decide) rfl ?_
  refine hz_pick (pc := 5) [0, 1, 2, 3] rfl ?_
  exact l_longAt hM ha hz hn hr 8 0 rfl (by omega)
/-- an int out of four bytes -/
def bn_int (f : Nat → Int32) (at_ : Nat) : Int32 := nI (bn_nat f at_ 4)
theorem or_nI {a b k p : Nat} (hp : 2 ^ k = p) (hb : b < p) : nI (a * p) ||| nI b = nI (a * p + b) := by
  apply Int32.toBitVec_inj.mp
  show BitVec.ofNat 32 (a * p) ||| BitVec.ofNat 32 b = BitVec.ofNat 32 (a * p + b)
  rw [← BitVec.ofNat_or]
  subst hp
  congr 1
  rw [Nat.mul_comm, Nat.two_pow_add_eq_or_of_lt hb]
theorem shl_nI (a : Nat) {k : Nat} (hk : k < 32) : nI a <<< (nI k &&& 31) = nI (a * 2 ^ k) := by
  apply un_inj
  show (nI a <<< (nI k &&& 31)).toBitVec.toNat = (BitVec.ofNat 32 (a * 2 ^ k)).toNat
  rw [pk_shl _ _ k (s_l k hk), BitVec.toNat_ofNat]
  show (BitVec.ofNat 32 a).toNat * 2 ^ k % 2 ^ 32 = _
  rw [BitVec.toNat_ofNat, Nat.mod_mul_mod]
theorem bn_int_e (f : Nat → Int32) (at_ : Nat) : (((nI (bb (f at_)) <<< (nI 24 &&& 31)) ||| (nI (bb (f (at_ + 1))) <<< (nI 16 &&& 31))) ||| (nI (bb (f (at_ + 2))) <<< (nI 8 &&& 31))) ||| nI (bb (f (at_ + 3))) = bn_int f at_ := by
  have h1 := bb_lt (f (at_ + 1))
  have h2 := bb_lt (f (at_ + 2))
  have h3 := bb_lt (f (at_ + 3))
  rw [shl_nI _ (by decide), shl_nI _ (by decide), shl_nI _ (by decide)]
  rw [or_nI (k := 24) (by decide) (by omega)]
  rw [show bb (f at_) * 2 ^ 24 + bb (f (at_ + 1)) * 2 ^ 16 = (bb (f at_) * 256 + bb (f (at_ + 1))) * 65536 by omega, or_nI (k := 16) (by decide) (by omega)]
  rw [show (bb (f at_) * 256 + bb (f (at_ + 1))) * 65536 + bb (f (at_ + 2)) * 2 ^ 8 = ((bb (f at_) * 256 + bb (f (at_ + 1))) * 256 + bb (f (at_ + 2))) * 256 by omega, or_nI (k := 8) (by decide) (by omega)]
  unfold bn_int
  simp only [bn_nat, Nat.add_zero, Nat.zero_mul, Nat.zero_add]
theorem bn_int_l (f : Nat → Int32) (at_ : Nat) : (bn_num f at_ 4).toInt32 = bn_int f at_ := by
  rw [bn_num_n 4 (by omega), lN_i]
  rfl

set_option maxHeartbeats 4000000 in
set_option maxRecDepth 100000 in
theorem c_intAt {κ : hz_C} {z : Nat} {M : hz_M} {b n : Nat} {f : Nat → Int32} (hM : M b = .inl (1, n, .inl f)) (ha : 8 ≤ b) (hz : b < z) (hn : n < 2 ^ 31) {at_ : Nat} (hr : at_ + 4 ≤ n) : hz_Mt κ xX12_intAt 0 0 0 [.ref b, .int (nI at_)] z M (hz_ex (some (.int (bn_int f at_))) z M) := by
  refine hz_ent (lo := [(0, .ref b), (1, .int (nI at_))]) (by decide) (Nat.le_of_ble_eq_true rfl) rfl ?_
  refine hz_aloadn (pc := 0) 0 (hz_dec kX12_intAt 0 rfl) rfl ?_
  refine hz_iloadn (pc := 1) 1 (hz_dec kX12_intAt 1 rfl) rfl ?_
  refine hz_bald (pc := 2) (j := at_) (hz_dec kX12_intAt 2 rfl) hM ha hz rfl (by omega) hn ?_
  refine hz_sipush (pc := 3) (v := nI 255) (hz_dec kX12_intAt 3 rfl) (by decide) ?_
  refine hz_andB (pc := 6) (hz_dec kX12_intAt 4 rfl) ?_
  refine hz_bipush (pc := 7) (v := nI 24) (hz_dec kX12_intAt 5 rfl) (by decide) ?_
  refine hz_ishl (pc := 9) (hz_dec kX12_intAt 6 rfl) ?_
  refine hz_aloadn (pc := 10) 0 (hz_dec kX12_intAt 7 rfl) rfl ?_
  refine hz_iloadn (pc := 11) 1 (hz_dec kX12_intAt 8 rfl) rfl ?_
  refine hz_iconst (pc := 12) (v := nI 1) (hz_dec kX12_intAt 9 rfl) (by decide) ?_
  refine hz_addN (pc := 13) (hz_dec kX12_intAt 10 rfl) ?_
  refine hz_bald (pc := 14) (j := at_ + 1) (hz_dec kX12_intAt 11 rfl) hM ha hz rfl (by omega) hn ?_
  refine hz_sipush (pc := 15) (v := nI 255) (hz_dec kX12_intAt 12 rfl) (by decide) ?_
  refine hz_andB (pc := 18) (hz_dec kX12_intAt 13 rfl) ?_
  refine hz_bipush (pc := 19) (v := nI 16) (hz_dec kX12_intAt 14 rfl) (by decide) ?_
  refine hz_ishl (pc := 21) (hz_dec kX12_intAt 15 rfl) ?_
  refine hz_ior (pc := 22) (hz_dec kX12_intAt 16 rfl) ?_
  refine hz_aloadn (pc := 23) 0 (hz_dec kX12_intAt 17 rfl) rfl ?_
  refine hz_iloadn (pc := 24) 1 (hz_dec kX12_intAt 18 rfl) rfl ?_
  refine hz_iconst (pc := 25) (v := nI 2) (hz_dec kX12_intAt 19 rfl) (by decide) ?_
  refine hz_addN (pc := 26) (hz_dec kX12_intAt 20 rfl) ?_
  refine hz_bald (pc := 27) (j := at_ + 2) (hz_dec kX12_intAt 21 rfl) hM ha hz rfl (by omega) hn ?_
  refine hz_sipush (pc := 28) (v := nI 255) (hz_dec kX12_intAt 22 rfl) (by decide) ?_
  refine hz_andB (pc := 31) (hz_dec kX12_intAt 23 rfl) ?_
  refine hz_bipush (pc := 32) (v := nI 8) (hz_dec kX12_intAt 24 rfl) (by decide) ?_
  refine hz_ishl (pc := 34) (hz_dec kX12_intAt 25 rfl) ?_
  refine hz_ior (pc := 35) (hz_dec kX12_intAt 26 rfl) ?_
  refine hz_aloadn (pc := 36) 0 (hz_dec kX12_intAt 27 rfl) rfl ?_
  refine hz_iloadn (pc := 37) 1 (hz_dec kX12_intAt 28 rfl) rfl ?_
  refine hz_iconst (pc := 38) (v := nI 3) (hz_dec kX12_intAt 29 rfl) (by decide) ?_
  refine hz_addN (pc := 39) (hz_dec kX12_intAt 30 rfl) ?_
  refine hz_bald (pc := 40) (j := at_ + 3) (hz_dec kX12_intAt 31 rfl) hM ha hz rfl (by omega) hn ?_
  refine hz_sipush (pc := 41) (v := nI 255) (hz_dec kX12_intAt 32 rfl) (by decide) ?_
  refine hz_andB (pc := 44) (hz_dec kX12_intAt 33 rfl) ?_
  refine hz_ior (pc := 45) (hz_dec kX12_intAt 34 rfl) ?_
  exact hz_iret (pc := 46) (hz_dec kX12_intAt 35 rfl) rfl ⟨by rw [← bn_int_e], rfl, rfl⟩
/-- byte j of an int, the highest first -/
def byi (v : Int32) (j : Nat) : Nat := un v / 2 ^ (8 * (3 - j)) % 256
theorem byi_lt (v : Int32) (j : Nat) : byi v j < 256 := Nat.mod_lt _ (by decide)
theorem sb_of {a : Int32} {c : Nat} (h : bb a = c) : a.toInt8.toInt32.toInt8.toInt32 = sb_b c := by
  rw [← h, i8_i8, ← bb_i8 a]
  exact (sb_bb (i8_i8 a)).symm
theorem bn_put_l {at_ : Nat} {v : Int64} {f : Nat → Int32} {j : Nat} (hj : j < 8) : bn_put at_ 8 v f (at_ + j) = sb_b (byl v j) := by
  rw [bn_put_in 8 v f j (by omega) hj]
  exact sb_of (bb_shrL _ (by omega))
theorem bn_put_i {at_ : Nat} {v : Int32} {f : Nat → Int32} {j : Nat} (hj : j < 4) : bn_put at_ 4 v.toInt64 f (at_ + j) = sb_b (byi v j) := by
  rw [bn_put_in 4 v.toInt64 f j (by omega) hj]
  refine sb_of ?_
  rw [bb_shrL _ (by omega)]
  unfold byi
  rw [← uL_i v]
  generalize uL v.toInt64 = n
  rcases (show j = 0 ∨ j = 1 ∨ j = 2 ∨ j = 3 by omega) with rfl | rfl | rfl | rfl <;> simp only [Nat.reduceMul, Nat.reduceSub, Nat.reducePow] <;> omega

set_option maxHeartbeats 4000000 in
set_option maxRecDepth 100000 in
theorem l_putLong {κ : hz_C} {z : Nat} {M : hz_M} {P : hz_P} {b n : Nat} {f0 : Nat → Int32} (hM : M b = .inl (1, n, .inl f0)) (ha : 8 ≤ b) (hz : b < z) (hn : n < 2 ^ 31) {at_ : Nat} {v : Int64} (hr : at_ + 8 ≤ n) (K : ∀ f : Nat → Int32, (∀ j, j < 8 → f (at_ + j) = sb_b (byl v j)) → (∀ q, q < at_ ∨ at_ + 8 ≤ q → f q = f0 q) → P none z (va_up M b (.inl (1, n, .inl (f))))) : ∀ k i f, k = 8 - i → i ≤ 8 → (∀ j, j < i → f (at_ + j) = sb_b (byl v j)) → (∀ q, q < at_ ∨ at_ + 8 ≤ q → f q = f0 q) → hz_W κ xX12_putLong 0 0 0 P 0 0 3 [(4, .int (nI i)), (0, .ref b), (1, .int (nI at_)), (2, .long v)] [] z (va_up M b (.inl (1, n, .inl (f)))) := by
  intro k
  induction k using Nat.strongRecOn with
  | ind k ih =>
  intro i f hk hi hf ho
  refine hz_iload (pc := 3) 0 (hz_dec kX12_putLong 2 rfl) rfl ?_
  refine hz_bipush (pc := 5) (v := nI 8) (hz_dec kX12_putLong 3 rfl) (by decide) ?_
  refine hz_n_ge (pc := 7) (tgt := 34) (hz_dec kX12_putLong 4 rfl) (by decide) (by omega) (by omega) (fun h1 => ?_) (fun h1 => ?_)
  · skip
    have e : i = 8 := by omega
    subst e
    exact hz_vret (pc := 34) (hz_dec kX12_putLong 21 rfl) rfl (K f hf ho)
  · skip
    refine hz_aloadn (pc := 10) 1 (hz_dec kX12_putLong 5 rfl) rfl ?_
    refine hz_iloadn (pc := 11) 2 (hz_dec kX12_putLong 6 rfl) rfl ?_
    refine hz_iload (pc := 12) 0 (hz_dec kX12_putLong 7 rfl) rfl ?_
    refine hz_addN (pc := 14) (hz_dec kX12_putLong 8 rfl) ?_
    refine hz_lloadn (pc := 15) 3 (hz_dec kX12_putLong 9 rfl) rfl ?_
    refine hz_bipush (pc := 16) (v := nI 56) (hz_dec kX12_putLong 10 rfl) (by decide) ?_
    refine hz_bipush (pc := 18) (v := nI 8) (hz_dec kX12_putLong 11 rfl) (by decide) ?_
    refine hz_iload (pc := 20) 0 (hz_dec kX12_putLong 12 rfl) rfl ?_
    refine hz_mulN (pc := 22) (hz_dec kX12_putLong 13 rfl) ?_
    refine hz_subN (pc := 23) (hz_dec kX12_putLong 14 rfl) (by omega) ?_
    refine hz_lshr (pc := 24) (hz_dec kX12_putLong 15 rfl) ?_
    refine hz_l2i (pc := 25) (hz_dec kX12_putLong 16 rfl) ?_
    refine hz_i2b (pc := 26) (hz_dec kX12_putLong 17 rfl) ?_
    refine hz_bast (pc := 27) (j := at_ + i) (hz_dec kX12_putLong 18 rfl) (va_up_self _ _ _) ha hz rfl (by omega) hn ?_
    refine hz_mem (pc := 28) (M2 := (va_up M b (.inl (1, n, .inl (upd f (at_ + i) (((((v) >>> ((nI (56 - (8 * i))).toInt64 &&& 63)).toInt32).toInt8.toInt32).toInt8.toInt32)))))) (bx_uu _ _ _ _) ?_
    refine hz_incN (pc := 28) (i := 4) (lo2 := [(4, .int (nI (i + 1))), (0, .ref b), (1, .int (nI at_)), (2, .long v)]) 0 (hz_dec kX12_putLong 19 rfl) rfl (by decide) rfl ?_
    refine hz_goto (pc := 31) (tgt := 3) (hz_dec kX12_putLong 20 rfl) (by decide) ?_
    refine hz_pick (pc := 3) [0, 1, 2, 3] rfl ?_
    refine ih (8 - (i + 1)) (by omega) (i + 1) _ rfl (by omega) (fun j hj => ?_) (fun q hq => ?_)
    · simp only [upd]
      by_cases e : at_ + j = at_ + i
      · have e2 : j = i := by omega
        subst e2
        rw [if_pos rfl]
        exact sb_of (by rw [show 56 - 8 * j = 8 * (7 - j) by omega, bb_shrL _ (by omega)]; rfl)
      · rw [if_neg e]; exact hf j (by omega)
    · simp only [upd]; rw [if_neg (by omega)]; exact ho q hq
def md_putLongP (M : hz_M) (z b n at_ : Nat) (f0 : Nat → Int32) (v : Int64) : hz_P := fun r z2 M2 => none = r ∧ z = z2 ∧ ∃ f : Nat → Int32, (∀ j, j < 8 → f (at_ + j) = sb_b (byl v j)) ∧ (∀ q, q < at_ ∨ at_ + 8 ≤ q → f q = f0 q) ∧ (va_up M b (.inl (1, n, .inl (f)))) = M2
set_option maxHeartbeats 4000000 in
set_option maxRecDepth 100000 in
theorem c_putLong {κ : hz_C} {z : Nat} {M : hz_M} {b n : Nat} {f0 : Nat → Int32} (hM : M b = .inl (1, n, .inl f0)) (ha : 8 ≤ b) (hz : b < z) (hn : n < 2 ^ 31) {at_ : Nat} {v : Int64} (hr : at_ + 8 ≤ n) : hz_Mt κ xX12_putLong 0 0 0 [.ref b, .int (nI at_), .long v] z M (md_putLongP M z b n at_ f0 v) := by
  refine hz_ent (lo := [(0, .ref b), (1, .int (nI at_)), (2, .long v)]) (by decide) (Nat.le_of_ble_eq_true rfl) rfl ?_
  refine hz_iconst (pc := 0) (v := nI 0) (hz_dec kX12_putLong 0 rfl) (by decide) ?_
  refine hz_istore (pc := 1) (i := 4) (lo2 := [(4, .int (nI 0)), (0, .ref b), (1, .int (nI at_)), (2, .long v)]) (hz_dec kX12_putLong 1 rfl) (by decide) rfl ?_
  refine hz_pick (pc := 3) [0, 1, 2, 3] rfl ?_
  refine hz_mem (hz_upid hM).symm ?_
  exact l_putLong hM ha hz hn hr (fun f h1 h2 => ⟨rfl, rfl, f, h1, h2, rfl⟩) 8 0 f0 rfl (by omega) (fun j hj => absurd hj (by omega)) (fun q _ => rfl)
set_option maxHeartbeats 4000000 in
set_option maxRecDepth 100000 in
theorem l_putInt {κ : hz_C} {z : Nat} {M : hz_M} {P : hz_P} {b n : Nat} {f0 : Nat → Int32} (hM : M b = .inl (1, n, .inl f0)) (ha : 8 ≤ b) (hz : b < z) (hn : n < 2 ^ 31) {at_ : Nat} {v : Int32} (hr : at_ + 4 ≤ n) (K : ∀ f : Nat → Int32, (∀ j, j < 4 → f (at_ + j) = sb_b (byi v j)) → (∀ q, q < at_ ∨ at_ + 4 ≤ q → f q = f0 q) → P none z (va_up M b (.inl (1, n, .inl (f))))) : ∀ k i f, k = 4 - i → i ≤ 4 → (∀ j, j < i → f (at_ + j) = sb_b (byi v j)) → (∀ q, q < at_ ∨ at_ + 4 ≤ q → f q = f0 q) → hz_W κ xX12_putInt 0 0 0 P 0 0 2 [(3, .int (nI i)), (0, .ref b), (1, .int (nI at_)), (2, .int v)] [] z (va_up M b (.inl (1, n, .inl (f)))) := by
  intro k
  induction k using Nat.strongRecOn with
  | ind k ih =>
  intro i f hk hi hf ho
  refine hz_iloadn (pc := 2) 0 (hz_dec kX12_putInt 2 rfl) rfl ?_
  refine hz_iconst (pc := 3) (v := nI 4) (hz_dec kX12_putInt 3 rfl) (by decide) ?_
  refine hz_n_ge (pc := 4) (tgt := 28) (hz_dec kX12_putInt 4 rfl) (by decide) (by omega) (by omega) (fun h1 => ?_) (fun h1 => ?_)
  · skip
    have e : i = 4 := by omega
    subst e
    exact hz_vret (pc := 28) (hz_dec kX12_putInt 20 rfl) rfl (K f hf ho)
  · skip
    refine hz_aloadn (pc := 7) 1 (hz_dec kX12_putInt 5 rfl) rfl ?_
    refine hz_iloadn (pc := 8) 2 (hz_dec kX12_putInt 6 rfl) rfl ?_
    refine hz_iloadn (pc := 9) 0 (hz_dec kX12_putInt 7 rfl) rfl ?_
    refine hz_addN (pc := 10) (hz_dec kX12_putInt 8 rfl) ?_
    refine hz_iloadn (pc := 11) 3 (hz_dec kX12_putInt 9 rfl) rfl ?_
    refine hz_bipush (pc := 12) (v := nI 24) (hz_dec kX12_putInt 10 rfl) (by decide) ?_
    refine hz_bipush (pc := 14) (v := nI 8) (hz_dec kX12_putInt 11 rfl) (by decide) ?_
    refine hz_iloadn (pc := 16) 0 (hz_dec kX12_putInt 12 rfl) rfl ?_
    refine hz_mulN (pc := 17) (hz_dec kX12_putInt 13 rfl) ?_
    refine hz_subN (pc := 18) (hz_dec kX12_putInt 14 rfl) (by omega) ?_
    refine hz_ishr (pc := 19) (hz_dec kX12_putInt 15 rfl) ?_
    refine hz_i2b (pc := 20) (hz_dec kX12_putInt 16 rfl) ?_
    refine hz_bast (pc := 21) (j := at_ + i) (hz_dec kX12_putInt 17 rfl) (va_up_self _ _ _) ha hz rfl (by omega) hn ?_
    refine hz_mem (pc := 22) (M2 := (va_up M b (.inl (1, n, .inl (upd f (at_ + i) ((((v) >>> ((nI (24 - (8 * i))) &&& 31)).toInt8.toInt32).toInt8.toInt32)))))) (bx_uu _ _ _ _) ?_
    refine hz_incN (pc := 22) (i := 3) (lo2 := [(3, .int (nI (i + 1))), (0, .ref b), (1, .int (nI at_)), (2, .int v)]) 0 (hz_dec kX12_putInt 18 rfl) rfl (by decide) rfl ?_
    refine hz_goto (pc := 25) (tgt := 2) (hz_dec kX12_putInt 19 rfl) (by decide) ?_
    refine hz_pick (pc := 2) [0, 1, 2, 3] rfl ?_
    refine ih (4 - (i + 1)) (by omega) (i + 1) _ rfl (by omega) (fun j hj => ?_) (fun q hq => ?_)
    · simp only [upd]
      by_cases e : at_ + j = at_ + i
      · have e2 : j = i := by omega
        subst e2
        rw [if_pos rfl]
        exact sb_of (by rw [show 24 - 8 * j = 8 * (3 - j) by omega, bb_shr _ (by omega)]; rfl)
      · rw [if_neg e]; exact hf j (by omega)
    · simp only [upd]; rw [if_neg (by omega)]; exact ho q hq
def md_putIntP (M : hz_M) (z b n at_ : Nat) (f0 : Nat → Int32) (v : Int32) : hz_P := fun r z2 M2 => none = r ∧ z = z2 ∧ ∃ f : Nat → Int32, (∀ j, j < 4 → f (at_ + j) = sb_b (byi v j)) ∧ (∀ q, q < at_ ∨ at_ + 4 ≤ q → f q = f0 q) ∧ (va_up M b (.inl (1, n, .inl (f)))) = M2
set_option maxHeartbeats 4000000 in
set_option maxRecDepth 100000 in
theorem c_putInt {κ : hz_C} {z : Nat} {M : hz_M} {b n : Nat} {f0 : Nat → Int32} (hM : M b = .inl (1, n, .inl f0)) (ha : 8 ≤ b) (hz : b < z) (hn : n < 2 ^ 31) {at_ : Nat} {v : Int32} (hr : at_ + 4 ≤ n) : hz_Mt κ xX12_putInt 0 0 0 [.ref b, .int (nI at_), .int v] z M (md_putIntP M z b n at_ f0 v) := by
  refine hz_ent (lo := [(0, .ref b), (1, .int (nI at_)), (2, .int v)]) (by decide) (Nat.le_of_ble_eq_true rfl) rfl ?_
  refine hz_iconst (pc := 0) (v := nI 0) (hz_dec kX12_putInt 0 rfl) (by decide) ?_
  refine hz_istoren (pc := 1) (i := 3) (lo2 := [(3, .int (nI 0)), (0, .ref b), (1, .int (nI at_)), (2, .int v)]) (hz_dec kX12_putInt 1 rfl) rfl (by decide) rfl ?_
  refine hz_pick (pc := 2) [0, 1, 2, 3] rfl ?_
  refine hz_mem (hz_upid hM).symm ?_
  exact l_putInt hM ha hz hn hr (fun f h1 h2 => ⟨rfl, rfl, f, h1, h2, rfl⟩) 4 0 f0 rfl (by omega) (fun j hj => absurd hj (by omega)) (fun q _ => rfl)
