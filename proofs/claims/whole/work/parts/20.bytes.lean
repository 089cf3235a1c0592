/-! Bytes: numbers as bytes -/
/-- so many bytes are the same -/
def bn_sm (f : Nat → Int32) (i : Nat) (g : Nat → Int32) (j : Nat) : Nat → Bool
  | 0 => true
  | k + 1 => bn_sm f i g j k && decide (f (i + k) = g (j + k))
theorem bn_sm_f {f g : Nat → Int32} {i j k : Nat} (h : ¬ f (i + k) = g (j + k)) : ∀ n, k < n → bn_sm f i g j n = false := by
  intro n
  induction n with
  | zero => intro q; omega
  | succ n ih =>
    intro q
    rcases Nat.lt_or_ge k n with r | r
    · simp [bn_sm, ih r]
    · have e : n = k := by omega
      subst e
      simp [bn_sm, h]
theorem bn_sm_iff {f g : Nat → Int32} {i j : Nat} : ∀ n, bn_sm f i g j n = true ↔ ∀ k, k < n → f (i + k) = g (j + k) := by
  intro n
  induction n with
  | zero => simp [bn_sm]
  | succ n ih =>
    simp only [bn_sm, Bool.and_eq_true, ih, decide_eq_true_eq]
    constructor
    · intro h k hk
      rcases Nat.lt_or_ge k n with r | r
      · exact h.1 k r
      · have e : k = n := by omega
        subst e
        exact h.2
    · intro h
      exact ⟨fun k hk => h k (by omega), h n (by omega)⟩

set_option maxHeartbeats 4000000 in
set_option maxRecDepth 100000 in
theorem c_one {κ : hz_C} {z : Nat} {M : hz_M} {b n : Nat} {f : Nat → Int32} (hM : M b = .inl (1, n, .inl f)) (ha : 8 ≤ b) (hz : b < z) (hn : n < 2 ^ 31) {i : Nat} (hi : i < n) : hz_Mt κ xX0_one 0 0 0 [.ref b, .int (nI i)] z M (hz_ex (some (.int (nI (bb (f i))))) z M) := by
  refine hz_ent (lo := [(0, .ref b), (1, .int (nI i))]) (by decide) (Nat.le_of_ble_eq_true rfl) rfl ?_
  refine hz_iloadn (pc := 0) 1 (hz_dec kX0_one 0 rfl) rfl ?_
  refine hz_z_lt (pc := 1) (tgt := 10) (hz_dec kX0_one 1 rfl) (by decide) (by omega) ?_
  refine hz_iloadn (pc := 4) 1 (hz_dec kX0_one 2 rfl) rfl ?_
  refine hz_aloadn (pc := 5) 0 (hz_dec kX0_one 3 rfl) rfl ?_
  refine hz_alen (pc := 6) (hz_dec kX0_one 4 rfl) hM (by decide) ha hz ?_
  refine hz_n_lt (pc := 7) (tgt := 14) (hz_dec kX0_one 5 rfl) (by decide) (by omega) (by omega) (fun h1 => ?_) (fun h1 => ?_)
  · skip
    refine hz_aloadn (pc := 14) 0 (hz_dec kX0_one 8 rfl) rfl ?_
    refine hz_iloadn (pc := 15) 1 (hz_dec kX0_one 9 rfl) rfl ?_
    refine hz_bald (pc := 16) (j := i) (hz_dec kX0_one 10 rfl) hM ha hz rfl (by omega) hn ?_
    refine hz_sipush (pc := 17) (v := nI 255) (hz_dec kX0_one 11 rfl) (by decide) ?_
    refine hz_andB (pc := 20) (hz_dec kX0_one 12 rfl) ?_
    exact hz_iret (pc := 21) (hz_dec kX0_one 13 rfl) rfl ⟨rfl, rfl, rfl⟩
  · skip
    exact absurd h1 (by omega)
set_option maxHeartbeats 4000000 in
set_option maxRecDepth 100000 in
theorem l_number {κ : hz_C} {z : Nat} {M : hz_M} {b n : Nat} {f : Nat → Int32} (hM : M b = .inl (1, n, .inl f)) (ha : 8 ≤ b) (hz : b < z) (hn : n < 2 ^ 31) {at_ mn : Nat} (hr : at_ + mn ≤ n) : ∀ k i, k = mn - i → i ≤ mn → hz_W κ xX0_number 0 0 0 (hz_ex (some (.long (bn_num f at_ mn))) z M) 0 0 19 [(5, .int (nI i)), (3, .long (bn_num f at_ i)), (0, .ref b), (1, .int (nI at_)), (2, .int (nI mn))] [] z M := by
  intro k
  induction k using Nat.strongRecOn with
  | ind k ih =>
  intro i hk hi
  refine hz_iload (pc := 19) 0 (hz_dec kX0_number 14 rfl) rfl ?_
  refine hz_iloadn (pc := 21) 4 (hz_dec kX0_number 15 rfl) rfl ?_
  refine hz_n_ge (pc := 22) (tgt := 48) (hz_dec kX0_number 16 rfl) (by decide) (by omega) (by omega) (fun h1 => ?_) (fun h1 => ?_)
  · skip
    have e : i = mn := by omega
    subst e
    refine hz_lloadn (pc := 48) 1 (hz_dec kX0_number 32 rfl) rfl ?_
    exact hz_lret (pc := 49) (hz_dec kX0_number 33 rfl) rfl ⟨rfl, rfl, rfl⟩
  · skip
    refine hz_lloadn (pc := 25) 1 (hz_dec kX0_number 17 rfl) rfl ?_
    refine hz_bipush (pc := 26) (v := nI 8) (hz_dec kX0_number 18 rfl) (by decide) ?_
    refine hz_lshl (pc := 28) (hz_dec kX0_number 19 rfl) ?_
    refine hz_aloadn (pc := 29) 2 (hz_dec kX0_number 20 rfl) rfl ?_
    refine hz_iloadn (pc := 30) 3 (hz_dec kX0_number 21 rfl) rfl ?_
    refine hz_iload (pc := 31) 0 (hz_dec kX0_number 22 rfl) rfl ?_
    refine hz_addN (pc := 33) (hz_dec kX0_number 23 rfl) ?_
    refine hz_bald (pc := 34) (j := at_ + i) (hz_dec kX0_number 24 rfl) hM ha hz rfl (by omega) hn ?_
    refine hz_sipush (pc := 35) (v := nI 255) (hz_dec kX0_number 25 rfl) (by decide) ?_
    refine hz_andB (pc := 38) (hz_dec kX0_number 26 rfl) ?_
    refine hz_i2l (pc := 39) (hz_dec kX0_number 27 rfl) ?_
    refine hz_lor (pc := 40) (hz_dec kX0_number 28 rfl) ?_
    refine hz_lstoren (pc := 41) (i := 3) (lo2 := [(3, .long (((bn_num f at_ i) <<< ((nI (8)).toInt64 &&& 63)) ||| ((nI (bb (f (at_ + i)))).toInt64))), (5, .int (nI i)), (0, .ref b), (1, .int (nI at_)), (2, .int (nI mn))]) (hz_dec kX0_number 29 rfl) rfl (by decide) rfl ?_
    refine hz_incN (pc := 42) (i := 5) (lo2 := [(5, .int (nI (i + 1))), (3, .long (((bn_num f at_ i) <<< ((nI (8)).toInt64 &&& 63)) ||| ((nI (bb (f (at_ + i)))).toInt64))), (0, .ref b), (1, .int (nI at_)), (2, .int (nI mn))]) 1 (hz_dec kX0_number 30 rfl) rfl (by decide) rfl ?_
    refine hz_goto (pc := 45) (tgt := 19) (hz_dec kX0_number 31 rfl) (by decide) ?_
    refine hz_pick (pc := 19) [0, 1, 2, 3, 4] rfl ?_
    exact ih (mn - (i + 1)) (by omega) (i + 1) rfl (by omega)
set_option maxHeartbeats 4000000 in
set_option maxRecDepth 100000 in
theorem c_number {κ : hz_C} {z : Nat} {M : hz_M} {b n : Nat} {f : Nat → Int32} (hM : M b = .inl (1, n, .inl f)) (ha : 8 ≤ b) (hz : b < z) (hn : n < 2 ^ 31) {at_ mn : Nat} (hr : at_ + mn ≤ n) : hz_Mt κ xX0_number 0 0 0 [.ref b, .int (nI at_), .int (nI mn)] z M (hz_ex (some (.long (bn_num f at_ mn))) z M) := by
  refine hz_ent (lo := [(0, .ref b), (1, .int (nI at_)), (2, .int (nI mn))]) (by decide) (Nat.le_of_ble_eq_true rfl) rfl ?_
  refine hz_iloadn (pc := 0) 1 (hz_dec kX0_number 0 rfl) rfl ?_
  refine hz_z_lt (pc := 1) (tgt := 12) (hz_dec kX0_number 1 rfl) (by decide) (by omega) ?_
  refine hz_iloadn (pc := 4) 1 (hz_dec kX0_number 2 rfl) rfl ?_
  refine hz_aloadn (pc := 5) 0 (hz_dec kX0_number 3 rfl) rfl ?_
  refine hz_alen (pc := 6) (hz_dec kX0_number 4 rfl) hM (by decide) ha hz ?_
  refine hz_iloadn (pc := 7) 2 (hz_dec kX0_number 5 rfl) rfl ?_
  refine hz_subN (pc := 8) (hz_dec kX0_number 6 rfl) (by omega) ?_
  refine hz_n_le (pc := 9) (tgt := 14) (hz_dec kX0_number 7 rfl) (by decide) (by omega) (by omega) (fun h1 => ?_) (fun h1 => ?_)
  · skip
    refine hz_lconst (pc := 14) (v := 0) (hz_dec kX0_number 10 rfl) (by decide) ?_
    refine hz_lstoren (pc := 15) (i := 3) (lo2 := [(3, .long 0), (0, .ref b), (1, .int (nI at_)), (2, .int (nI mn))]) (hz_dec kX0_number 11 rfl) rfl (by decide) rfl ?_
    refine hz_iconst (pc := 16) (v := nI 0) (hz_dec kX0_number 12 rfl) (by decide) ?_
    refine hz_istore (pc := 17) (i := 5) (lo2 := [(5, .int (nI 0)), (3, .long 0), (0, .ref b), (1, .int (nI at_)), (2, .int (nI mn))]) (hz_dec kX0_number 13 rfl) (by decide) rfl ?_
    refine hz_pick (pc := 19) [0, 1, 2, 3, 4] rfl ?_
    exact l_number hM ha hz hn hr mn 0 rfl (by omega)
  · skip
    exact absurd h1 (by omega)
set_option maxHeartbeats 4000000 in
set_option maxRecDepth 100000 in
theorem l_put {κ : hz_C} {z : Nat} {b n : Nat} (ha : 8 ≤ b) (hz : b < z) (hn : n < 2 ^ 31) {at_ : Nat} {Q : hz_P} : ∀ (k : Nat) (v : Int64) (f : Nat → Int32) (ix : Int32) (M : hz_M), ix = nI k - 1 → at_ + k ≤ n → M b = .inl (1, n, .inl f) → Q none z (va_up M b (.inl (1, n, .inl (bn_put at_ k v f)))) → hz_W κ xX0_put 0 0 0 Q 0 0 23 [(7, .int ix), (5, .long v), (0, .ref b), (1, .int (nI at_))] [] z M := by
  intro k
  induction k with
  | zero =>
    intro v f ix M hx hr hM hQ
    refine hz_iload (pc := 23) 0 (hz_dec kX0_put 15 rfl) rfl ?_
    refine hz_if_lt (pc := 25) (tgt := 51) (hz_dec kX0_put 16 rfl) (by decide) (fun h1 => ?_) (fun h1 => ?_)
    · skip
      rw [show bn_put at_ 0 v f = f from rfl, hz_upid hM] at hQ
      exact hz_vret (pc := 51) (hz_dec kX0_put 31 rfl) rfl hQ
    · skip
      exact absurd (by rw [hx]; decide) h1
  | succ k ih =>
    intro v f ix M hx hr hM hQ
    rw [nI_pred] at hx
    refine hz_iload (pc := 23) 0 (hz_dec kX0_put 15 rfl) rfl ?_
    refine hz_if_lt (pc := 25) (tgt := 51) (hz_dec kX0_put 16 rfl) (by decide) (fun h1 => ?_) (fun h1 => ?_)
    · skip
      exact absurd h1 (by rw [hx]; exact nI_pos (by omega))
    · skip
      subst hx
      refine hz_aloadn (pc := 28) 2 (hz_dec kX0_put 17 rfl) rfl ?_
      refine hz_iloadn (pc := 29) 3 (hz_dec kX0_put 18 rfl) rfl ?_
      refine hz_iload (pc := 30) 0 (hz_dec kX0_put 19 rfl) rfl ?_
      refine hz_addN (pc := 32) (hz_dec kX0_put 20 rfl) ?_
      refine hz_lload (pc := 33) 1 (hz_dec kX0_put 21 rfl) rfl ?_
      refine hz_l2i (pc := 35) (hz_dec kX0_put 22 rfl) ?_
      refine hz_i2b (pc := 36) (hz_dec kX0_put 23 rfl) ?_
      refine hz_bast (pc := 37) (j := at_ + k) (hz_dec kX0_put 24 rfl) hM ha hz rfl (by omega) hn ?_
      refine hz_lload (pc := 38) 1 (hz_dec kX0_put 25 rfl) rfl ?_
      refine hz_bipush (pc := 40) (v := nI 8) (hz_dec kX0_put 26 rfl) (by decide) ?_
      refine hz_lshr (pc := 42) (hz_dec kX0_put 27 rfl) ?_
      refine hz_lstore (pc := 43) (i := 5) (lo2 := [(5, .long ((v) >>> ((nI (8)).toInt64 &&& 63))), (7, .int (nI k)), (0, .ref b), (1, .int (nI at_))]) (hz_dec kX0_put 28 rfl) (by decide) rfl ?_
      refine hz_iinc (pc := 45) (i := 7) (w := nI k - 1) (lo2 := [(7, .int (nI k - 1)), (5, .long (v >>> ((nI 8).toInt64 &&& 63))), (0, .ref b), (1, .int (nI at_))]) 1 (hz_dec kX0_put 29 rfl) rfl (hz_m1 k) (by decide) rfl ?_
      refine hz_goto (pc := 48) (tgt := 23) (hz_dec kX0_put 30 rfl) (by decide) ?_
      refine ih _ (upd f (at_ + k) v.toInt32.toInt8.toInt32.toInt8.toInt32) _ _ rfl (by omega) (va_up_self _ _ _) ?_
      have e : ∀ c1 c2 : va_E, va_up (va_up M b c1) b c2 = va_up M b c2 := fun c1 c2 => bx_uu M b c1 c2
      rw [e]; exact hQ
set_option maxHeartbeats 4000000 in
set_option maxRecDepth 100000 in
theorem c_put {κ : hz_C} {z : Nat} {M : hz_M} {b n : Nat} {f : Nat → Int32} (hM : M b = .inl (1, n, .inl f)) (ha : 8 ≤ b) (hz : b < z) (hn : n < 2 ^ 31) {at_ mn : Nat} {v : Int64} (hr : at_ + mn ≤ n) : hz_Mt κ xX0_put 0 0 0 [.ref b, .int (nI at_), .long v, .int (nI mn)] z M (hz_ex none z (va_up M b (.inl (1, n, .inl (bn_put at_ mn v f))))) := by
  refine hz_ent (lo := [(0, .ref b), (1, .int (nI at_)), (2, .long v), (4, .int (nI mn))]) (by decide) (Nat.le_of_ble_eq_true rfl) rfl ?_
  refine hz_iloadn (pc := 0) 1 (hz_dec kX0_put 0 rfl) rfl ?_
  refine hz_z_lt (pc := 1) (tgt := 13) (hz_dec kX0_put 1 rfl) (by decide) (by omega) ?_
  refine hz_iloadn (pc := 4) 1 (hz_dec kX0_put 2 rfl) rfl ?_
  refine hz_aloadn (pc := 5) 0 (hz_dec kX0_put 3 rfl) rfl ?_
  refine hz_alen (pc := 6) (hz_dec kX0_put 4 rfl) hM (by decide) ha hz ?_
  refine hz_iload (pc := 7) 3 (hz_dec kX0_put 5 rfl) rfl ?_
  refine hz_subN (pc := 9) (hz_dec kX0_put 6 rfl) (by omega) ?_
  refine hz_n_le (pc := 10) (tgt := 14) (hz_dec kX0_put 7 rfl) (by decide) (by omega) (by omega) (fun h1 => ?_) (fun h1 => ?_)
  · skip
    refine hz_lloadn (pc := 14) 2 (hz_dec kX0_put 9 rfl) rfl ?_
    refine hz_lstore (pc := 15) (i := 5) (lo2 := [(5, .long v), (0, .ref b), (1, .int (nI at_)), (2, .long v), (4, .int (nI mn))]) (hz_dec kX0_put 10 rfl) (by decide) rfl ?_
    refine hz_iload (pc := 17) 4 (hz_dec kX0_put 11 rfl) rfl ?_
    refine hz_iconst (pc := 19) (v := nI 1) (hz_dec kX0_put 12 rfl) (by decide) ?_
    refine hz_isub (pc := 20) (hz_dec kX0_put 13 rfl) ?_
    refine hz_istore (pc := 21) (i := 7) (lo2 := [(7, .int (nI mn - nI 1)), (5, .long v), (0, .ref b), (1, .int (nI at_)), (2, .long v), (4, .int (nI mn))]) (hz_dec kX0_put 14 rfl) (by decide) rfl ?_
    refine hz_pick (pc := 23) [0, 1, 2, 3] rfl ?_
    exact l_put ha hz hn mn v f _ M rfl hr hM ⟨rfl, rfl, rfl⟩
  · skip
    exact absurd h1 (by omega)
set_option maxHeartbeats 4000000 in
set_option maxRecDepth 100000 in
theorem l_same {κ : hz_C} {z : Nat} {M : hz_M} {b n : Nat} {f : Nat → Int32} (hM : M b = .inl (1, n, .inl f)) (ha : 8 ≤ b) (hz : b < z) (hn : n < 2 ^ 31) {b2 n2 : Nat} {g : Nat → Int32} (hM2 : M b2 = .inl (1, n2, .inl g)) (ha2 : 8 ≤ b2) (hz2 : b2 < z) (hn2 : n2 < 2 ^ 31) {i0 j0 mn : Nat} (hr : i0 + mn ≤ n) (hr2 : j0 + mn ≤ n2) : ∀ k i, k = mn - i → i ≤ mn → bn_sm f i0 g j0 i = true → hz_W κ xX0_same 0 0 0 (hz_ex (some (.int (hz_b (bn_sm f i0 g j0 mn)))) z M) 0 0 31 [(5, .int (nI i)), (0, .ref b), (1, .int (nI i0)), (2, .ref b2), (3, .int (nI j0)), (4, .int (nI mn))] [] z M := by
  intro k
  induction k using Nat.strongRecOn with
  | ind k ih =>
  intro i hk hi hs
  refine hz_iload (pc := 31) 0 (hz_dec kX0_same 20 rfl) rfl ?_
  refine hz_iload (pc := 33) 5 (hz_dec kX0_same 21 rfl) rfl ?_
  refine hz_n_ge (pc := 35) (tgt := 61) (hz_dec kX0_same 22 rfl) (by decide) (by omega) (by omega) (fun h1 => ?_) (fun h1 => ?_)
  · skip
    have e : i = mn := by omega
    subst e
    refine hz_iconst (pc := 61) (v := nI 1) (hz_dec kX0_same 38 rfl) (by decide) ?_
    exact hz_zret (pc := 62) (hz_dec kX0_same 39 rfl) rfl rfl ⟨by rw [hs]; rfl, rfl, rfl⟩
  · skip
    refine hz_aloadn (pc := 38) 1 (hz_dec kX0_same 23 rfl) rfl ?_
    refine hz_iloadn (pc := 39) 2 (hz_dec kX0_same 24 rfl) rfl ?_
    refine hz_iload (pc := 40) 0 (hz_dec kX0_same 25 rfl) rfl ?_
    refine hz_addN (pc := 42) (hz_dec kX0_same 26 rfl) ?_
    refine hz_bald (pc := 43) (j := i0 + i) (hz_dec kX0_same 27 rfl) hM ha hz rfl (by omega) hn ?_
    refine hz_aloadn (pc := 44) 3 (hz_dec kX0_same 28 rfl) rfl ?_
    refine hz_iloadn (pc := 45) 4 (hz_dec kX0_same 29 rfl) rfl ?_
    refine hz_iload (pc := 46) 0 (hz_dec kX0_same 30 rfl) rfl ?_
    refine hz_addN (pc := 48) (hz_dec kX0_same 31 rfl) ?_
    refine hz_bald (pc := 49) (j := j0 + i) (hz_dec kX0_same 32 rfl) hM2 ha2 hz2 rfl (by omega) hn2 ?_
    refine hz_icmp_eq (pc := 50) (tgt := 55) (hz_dec kX0_same 33 rfl) (by decide) (fun h2 => ?_) (fun h2 => ?_)
    · skip
      refine hz_incN (pc := 55) (i := 5) (lo2 := [(5, .int (nI (i + 1))), (0, .ref b), (1, .int (nI i0)), (2, .ref b2), (3, .int (nI j0)), (4, .int (nI mn))]) 0 (hz_dec kX0_same 36 rfl) rfl (by decide) rfl ?_
      refine hz_goto (pc := 58) (tgt := 31) (hz_dec kX0_same 37 rfl) (by decide) ?_
      refine hz_pick (pc := 31) [0, 1, 2, 3, 4, 5] rfl ?_
      exact ih (mn - (i + 1)) (by omega) (i + 1) rfl (by omega) (by simp [bn_sm, hs, h2])
    · skip
      refine hz_iconst (pc := 53) (v := nI 0) (hz_dec kX0_same 34 rfl) (by decide) ?_
      exact hz_zret (pc := 54) (hz_dec kX0_same 35 rfl) rfl rfl ⟨by rw [bn_sm_f h2 mn h1]; rfl, rfl, rfl⟩
set_option maxHeartbeats 4000000 in
set_option maxRecDepth 100000 in
theorem c_same {κ : hz_C} {z : Nat} {M : hz_M} {b n : Nat} {f : Nat → Int32} (hM : M b = .inl (1, n, .inl f)) (ha : 8 ≤ b) (hz : b < z) (hn : n < 2 ^ 31) {b2 n2 : Nat} {g : Nat → Int32} (hM2 : M b2 = .inl (1, n2, .inl g)) (ha2 : 8 ≤ b2) (hz2 : b2 < z) (hn2 : n2 < 2 ^ 31) {i0 j0 mn : Nat} (hr : i0 + mn ≤ n) (hr2 : j0 + mn ≤ n2) : hz_Mt κ xX0_same 0 0 0 [.ref b, .int (nI i0), .ref b2, .int (nI j0), .int (nI mn)] z M (hz_ex (some (.int (hz_b (bn_sm f i0 g j0 mn)))) z M) := by
  refine hz_ent (lo := [(0, .ref b), (1, .int (nI i0)), (2, .ref b2), (3, .int (nI j0)), (4, .int (nI mn))]) (by decide) (Nat.le_of_ble_eq_true rfl) rfl ?_
  refine hz_iloadn (pc := 0) 1 (hz_dec kX0_same 0 rfl) rfl ?_
  refine hz_z_lt (pc := 1) (tgt := 26) (hz_dec kX0_same 1 rfl) (by decide) (by omega) ?_
  refine hz_iloadn (pc := 4) 1 (hz_dec kX0_same 2 rfl) rfl ?_
  refine hz_aloadn (pc := 5) 0 (hz_dec kX0_same 3 rfl) rfl ?_
  refine hz_alen (pc := 6) (hz_dec kX0_same 4 rfl) hM (by decide) ha hz ?_
  refine hz_iload (pc := 7) 4 (hz_dec kX0_same 5 rfl) rfl ?_
  refine hz_subN (pc := 9) (hz_dec kX0_same 6 rfl) (by omega) ?_
  refine hz_n_gt (pc := 10) (tgt := 26) (hz_dec kX0_same 7 rfl) (by decide) (by omega) (by omega) (fun h1 => ?_) (fun h1 => ?_)
  · skip
    exact absurd h1 (by omega)
  · skip
    refine hz_iloadn (pc := 13) 3 (hz_dec kX0_same 8 rfl) rfl ?_
    refine hz_z_lt (pc := 14) (tgt := 26) (hz_dec kX0_same 9 rfl) (by decide) (by omega) ?_
    refine hz_iloadn (pc := 17) 3 (hz_dec kX0_same 10 rfl) rfl ?_
    refine hz_aloadn (pc := 18) 2 (hz_dec kX0_same 11 rfl) rfl ?_
    refine hz_alen (pc := 19) (hz_dec kX0_same 12 rfl) hM2 (by decide) ha2 hz2 ?_
    refine hz_iload (pc := 20) 4 (hz_dec kX0_same 13 rfl) rfl ?_
    refine hz_subN (pc := 22) (hz_dec kX0_same 14 rfl) (by omega) ?_
    refine hz_n_le (pc := 23) (tgt := 28) (hz_dec kX0_same 15 rfl) (by decide) (by omega) (by omega) (fun h4 => ?_) (fun h4 => ?_)
    · skip
      refine hz_iconst (pc := 28) (v := nI 0) (hz_dec kX0_same 18 rfl) (by decide) ?_
      refine hz_istore (pc := 29) (i := 5) (lo2 := [(5, .int (nI 0)), (0, .ref b), (1, .int (nI i0)), (2, .ref b2), (3, .int (nI j0)), (4, .int (nI mn))]) (hz_dec kX0_same 19 rfl) (by decide) rfl ?_
      refine hz_pick (pc := 31) [0, 1, 2, 3, 4, 5] rfl ?_
      exact l_same hM ha hz hn hM2 ha2 hz2 hn2 hr hr2 mn 0 rfl (by omega) rfl
    · skip
      exact absurd h4 (by omega)
set_option maxHeartbeats 4000000 in
set_option maxRecDepth 100000 in
theorem c_copy {κ : hz_C} {z : Nat} {M : hz_M} {b n : Nat} {f : Nat → Int32} (hM : M b = .inl (1, n, .inl f)) (ha : 8 ≤ b) (hz : b < z) (hn : n < 2 ^ 31) {b2 n2 : Nat} {g : Nat → Int32} (hM2 : M b2 = .inl (1, n2, .inl g)) (ha2 : 8 ≤ b2) (hz2 : b2 < z) (hn2 : n2 < 2 ^ 31) {i0 j0 mn : Nat} (hr : i0 + mn ≤ n) (hr2 : j0 + mn ≤ n2) : hz_Mt κ xX0_copy 1 0 0 [.ref b, .int (nI i0), .ref b2, .int (nI j0), .int (nI mn)] z M (hz_ex none z (va_up M b2 (.inl (1, n2, .inl (va_cpy f g i0 j0 mn))))) := by
  refine hz_ent (lo := [(0, .ref b), (1, .int (nI i0)), (2, .ref b2), (3, .int (nI j0)), (4, .int (nI mn))]) (by decide) (Nat.le_of_ble_eq_true rfl) rfl ?_
  refine hz_iload (pc := 0) 4 (hz_dec kX0_copy 0 rfl) rfl ?_
  refine hz_z_lt (pc := 2) (tgt := 31) (hz_dec kX0_copy 1 rfl) (by decide) (by omega) ?_
  refine hz_iloadn (pc := 5) 1 (hz_dec kX0_copy 2 rfl) rfl ?_
  refine hz_z_lt (pc := 6) (tgt := 31) (hz_dec kX0_copy 3 rfl) (by decide) (by omega) ?_
  refine hz_iloadn (pc := 9) 1 (hz_dec kX0_copy 4 rfl) rfl ?_
  refine hz_aloadn (pc := 10) 0 (hz_dec kX0_copy 5 rfl) rfl ?_
  refine hz_alen (pc := 11) (hz_dec kX0_copy 6 rfl) hM (by decide) ha hz ?_
  refine hz_iload (pc := 12) 4 (hz_dec kX0_copy 7 rfl) rfl ?_
  refine hz_subN (pc := 14) (hz_dec kX0_copy 8 rfl) (by omega) ?_
  refine hz_n_gt (pc := 15) (tgt := 31) (hz_dec kX0_copy 9 rfl) (by decide) (by omega) (by omega) (fun h1 => ?_) (fun h1 => ?_)
  · skip
    exact absurd h1 (by omega)
  · skip
    refine hz_iloadn (pc := 18) 3 (hz_dec kX0_copy 10 rfl) rfl ?_
    refine hz_z_lt (pc := 19) (tgt := 31) (hz_dec kX0_copy 11 rfl) (by decide) (by omega) ?_
    refine hz_iloadn (pc := 22) 3 (hz_dec kX0_copy 12 rfl) rfl ?_
    refine hz_aloadn (pc := 23) 2 (hz_dec kX0_copy 13 rfl) rfl ?_
    refine hz_alen (pc := 24) (hz_dec kX0_copy 14 rfl) hM2 (by decide) ha2 hz2 ?_
    refine hz_iload (pc := 25) 4 (hz_dec kX0_copy 15 rfl) rfl ?_
    refine hz_subN (pc := 27) (hz_dec kX0_copy 16 rfl) (by omega) ?_
    refine hz_n_le (pc := 28) (tgt := 32) (hz_dec kX0_copy 17 rfl) (by decide) (by omega) (by omega) (fun h4 => ?_) (fun h4 => ?_)
    · skip
      refine hz_aloadn (pc := 32) 0 (hz_dec kX0_copy 19 rfl) rfl ?_
      refine hz_iloadn (pc := 33) 1 (hz_dec kX0_copy 20 rfl) rfl ?_
      refine hz_aloadn (pc := 34) 2 (hz_dec kX0_copy 21 rfl) rfl ?_
      refine hz_iloadn (pc := 35) 3 (hz_dec kX0_copy 22 rfl) rfl ?_
      refine hz_iload (pc := 36) 4 (hz_dec kX0_copy 23 rfl) rfl ?_
      refine hz_copyB (pc := 38) (hz_dec kX0_copy 24 rfl) ac_X0_9 hM ha hz hM2 ha2 hz2 hr hr2 hn hn2 (by decide) (by decide) ?_
      exact hz_vret (pc := 41) (hz_dec kX0_copy 25 rfl) rfl ⟨rfl, rfl, rfl⟩
    · skip
      exact absurd h4 (by omega)
set_option maxHeartbeats 4000000 in
set_option maxRecDepth 100000 in
theorem c_inputAt {κ : hz_C} {z : Nat} {M : hz_M} {a i : Nat} : hz_Mt κ xX0_inputAt 0 0 0 [.int (nI a), .int (nI i)] z M (hz_ex (some (.int (nI (a + 2 + i * 73)))) z M) := by
  refine hz_ent (lo := [(0, .int (nI a)), (1, .int (nI i))]) (by decide) (Nat.le_of_ble_eq_true rfl) rfl ?_
  refine hz_iloadn (pc := 0) 0 (hz_dec kX0_inputAt 0 rfl) rfl ?_
  refine hz_iconst (pc := 1) (v := nI 2) (hz_dec kX0_inputAt 1 rfl) (by decide) ?_
  refine hz_addN (pc := 2) (hz_dec kX0_inputAt 2 rfl) ?_
  refine hz_iloadn (pc := 3) 1 (hz_dec kX0_inputAt 3 rfl) rfl ?_
  refine hz_bipush (pc := 4) (v := nI 73) (hz_dec kX0_inputAt 4 rfl) (by decide) ?_
  refine hz_mulN (pc := 6) (hz_dec kX0_inputAt 5 rfl) ?_
  refine hz_addN (pc := 7) (hz_dec kX0_inputAt 6 rfl) ?_
  exact hz_iret (pc := 8) (hz_dec kX0_inputAt 7 rfl) rfl ⟨rfl, rfl, rfl⟩
def tx_oa (q : Nat) : Nat := if q = 0 then 4 else q * 73
set_option maxHeartbeats 4000000 in
set_option maxRecDepth 100000 in
theorem c_outputAt {κ : hz_C} {z : Nat} {M : hz_M} {a q i : Nat} (hq : q < 2 ^ 31) : hz_Mt κ xX0_outputAt 0 0 0 [.int (nI a), .int (nI q), .int (nI i)] z M (hz_ex (some (.int (nI (a + 2 + tx_oa q + i * 16)))) z M) := by
  refine hz_ent (lo := [(0, .int (nI a)), (1, .int (nI q)), (2, .int (nI i))]) (by decide) (Nat.le_of_ble_eq_true rfl) rfl ?_
  refine hz_iloadn (pc := 0) 0 (hz_dec kX0_outputAt 0 rfl) rfl ?_
  refine hz_iconst (pc := 1) (v := nI 2) (hz_dec kX0_outputAt 1 rfl) (by decide) ?_
  refine hz_addN (pc := 2) (hz_dec kX0_outputAt 2 rfl) ?_
  refine hz_iloadn (pc := 3) 1 (hz_dec kX0_outputAt 3 rfl) rfl ?_
  refine hz_z_ne (pc := 4) (tgt := 11) (hz_dec kX0_outputAt 4 rfl) (by decide) (by omega) (fun h1 => ?_) (fun h1 => ?_)
  · skip
    refine hz_iloadn (pc := 11) 1 (hz_dec kX0_outputAt 7 rfl) rfl ?_
    refine hz_bipush (pc := 12) (v := nI 73) (hz_dec kX0_outputAt 8 rfl) (by decide) ?_
    refine hz_mulN (pc := 14) (hz_dec kX0_outputAt 9 rfl) ?_
    refine hz_addN (pc := 15) (hz_dec kX0_outputAt 10 rfl) ?_
    refine hz_iloadn (pc := 16) 2 (hz_dec kX0_outputAt 11 rfl) rfl ?_
    refine hz_bipush (pc := 17) (v := nI 16) (hz_dec kX0_outputAt 12 rfl) (by decide) ?_
    refine hz_mulN (pc := 19) (hz_dec kX0_outputAt 13 rfl) ?_
    refine hz_addN (pc := 20) (hz_dec kX0_outputAt 14 rfl) ?_
    exact hz_iret (pc := 21) (hz_dec kX0_outputAt 15 rfl) rfl ⟨by rw [tx_oa, if_neg (by omega)], rfl, rfl⟩
  · skip
    refine hz_iconst (pc := 7) (v := nI 4) (hz_dec kX0_outputAt 5 rfl) (by decide) ?_
    refine hz_goto (pc := 8) (tgt := 15) (hz_dec kX0_outputAt 6 rfl) (by decide) ?_
    refine hz_addN (pc := 15) (hz_dec kX0_outputAt 10 rfl) ?_
    refine hz_iloadn (pc := 16) 2 (hz_dec kX0_outputAt 11 rfl) rfl ?_
    refine hz_bipush (pc := 17) (v := nI 16) (hz_dec kX0_outputAt 12 rfl) (by decide) ?_
    refine hz_mulN (pc := 19) (hz_dec kX0_outputAt 13 rfl) ?_
    refine hz_addN (pc := 20) (hz_dec kX0_outputAt 14 rfl) ?_
    exact hz_iret (pc := 21) (hz_dec kX0_outputAt 15 rfl) rfl ⟨by rw [tx_oa, if_pos h1], rfl, rfl⟩
