/-! the class: work -/
theorem inc_step {f fa : Nat → Int32} {k m c W : Nat} (hW : W = 4294967296 ^ m) (h : bg f (k + 1) m + c * W = bg fa (k + 1) m + 1) :
    bg (upd f k (nI (c + un (fa k)))) k (m + 1) + (c + un (fa k)) / 2 ^ 32 * 4294967296 ^ (m + 1) = bg fa k (m + 1) + 1 := by
  have hp : (4294967296 : Nat) ^ (m + 1) = W * 4294967296 := by rw [hW, Nat.pow_succ]
  rw [bg_cons, bg_cons fa, bg_up m (by omega), hp, ← hW]
  have e0 : upd f k (nI (c + un (fa k))) k = nI (c + un (fa k)) := by simp [upd]
  rw [e0, un_nIm]
  generalize un (fa k) = x at *
  have e1 : (c + x) % 4294967296 + (c + x) / 2 ^ 32 * 4294967296 = c + x := by omega
  have e2 := congrArg (fun t => t * W) e1
  simp only [Nat.add_mul] at e2
  rw [Nat.mul_assoc, Nat.mul_comm 4294967296 W] at e2
  omega
/-- a word of a double -/
theorem tw_w {x : Int32} {c : Nat} (hc : c < 2) : un ((x <<< (nI 1 &&& 31)) ||| nI c) + un x / 2147483648 * 4294967296 = 2 * un x + c := by
  have hu := un_lt x
  have e : x <<< (nI 1 &&& 31) = nI (un x * 2) := by
    have q := shl_nI (un x) (k := 1) (by decide)
    rw [nI_un] at q
    exact q
  rw [e, or_nI (k := 1) rfl hc, un_nIm]
  omega
theorem tw_st {f f0 : Nat → Int32} {i c t R : Nat} {v : Int32} (h : bg f 0 i + t * R = 2 * bg f0 0 i + un (f0 i) / 2147483648) (hv : un v + un (f0 i) / 2147483648 * 4294967296 = 2 * un (f0 i) + c) :
    bg (upd f i v) 0 (i + 1) + t * (R * 4294967296) = 2 * bg f0 0 (i + 1) + c := by
  rw [bg_eU (n := 0)]
  have e : bg f0 0 (i + 1) = bg f0 0 i * 4294967296 + un (f0 (0 + i)) := rfl
  rw [Nat.zero_add] at e
  rw [e, ← Nat.mul_assoc]
  omega
set_option maxHeartbeats 4000000 in
set_option maxRecDepth 100000 in
theorem c_twice_l {κ : hz_C} {z : Nat} {M : hz_M} {b : Nat} {f0 : Nat → Int32} (hM : M b = .inl (0, 8, .inl f0)) (ha : 8 ≤ b) (hz : b < z) {P : hz_P} (K : ∀ (f : Nat → Int32) (t : Nat), bg f 0 8 + t * 4294967296 ^ 8 = 2 * bg f0 0 8 → P none z (va_up M b (.inl (0, 8, .inl f)))) : ∀ k i f t, k = 8 - i → i ≤ 8 → (∀ j, i ≤ j → f j = f0 j) → bg f 0 i + t * 4294967296 ^ i = 2 * bg f0 0 i + (if i < 8 then un (f0 i) / 2147483648 else 0) → hz_W κ xX9_twice 0 0 0 P 0 0 2 [(1, .int (nI i)), (0, .ref b)] [] z (va_up M b (.inl (0, 8, .inl f))) := by
  intro k
  induction k using Nat.strongRecOn with
  | ind k ih =>
  intro i f t hk hi hs hv
  refine hz_iloadn (pc := 2) 0 (hz_dec kX9_twice 2 rfl) rfl ?_
  refine hz_aloadn (pc := 3) 1 (hz_dec kX9_twice 3 rfl) rfl ?_
  refine hz_alen (pc := 4) (hz_dec kX9_twice 4 rfl) (va_up_self _ _ _) (by decide) ha hz ?_
  refine hz_n_ge (pc := 5) (tgt := 43) (hz_dec kX9_twice 5 rfl) (by decide) (by omega) (by omega) (fun h1 => ?_) (fun h1 => ?_)
  · skip
    have e : i = 8 := by omega
    subst e
    exact hz_vret (pc := 43) (hz_dec kX9_twice 32 rfl) rfl (K f t (by rw [if_neg (by omega), Nat.add_zero] at hv; exact hv))
  · skip
    rw [if_pos h1] at hv
    have hu2 := un_lt (f0 (i + 1))
    refine hz_aloadn (pc := 8) 1 (hz_dec kX9_twice 6 rfl) rfl ?_
    refine hz_iloadn (pc := 9) 0 (hz_dec kX9_twice 7 rfl) rfl ?_
    refine hz_aloadn (pc := 10) 1 (hz_dec kX9_twice 8 rfl) rfl ?_
    refine hz_iloadn (pc := 11) 0 (hz_dec kX9_twice 9 rfl) rfl ?_
    refine hz_iald (pc := 12) (j := i) (hz_dec kX9_twice 10 rfl) (va_up_self _ _ _) ha hz rfl (by omega) (by decide) ?_
    refine hz_iconst (pc := 13) (v := nI 1) (hz_dec kX9_twice 11 rfl) (by decide) ?_
    refine hz_ishl (pc := 14) (hz_dec kX9_twice 12 rfl) ?_
    refine hz_iloadn (pc := 15) 0 (hz_dec kX9_twice 13 rfl) rfl ?_
    refine hz_iconst (pc := 16) (v := nI 1) (hz_dec kX9_twice 14 rfl) (by decide) ?_
    refine hz_addN (pc := 17) (hz_dec kX9_twice 15 rfl) ?_
    refine hz_aloadn (pc := 18) 1 (hz_dec kX9_twice 16 rfl) rfl ?_
    refine hz_alen (pc := 19) (hz_dec kX9_twice 17 rfl) (va_up_self _ _ _) (by decide) ha hz ?_
    refine hz_n_ge (pc := 20) (tgt := 34) (hz_dec kX9_twice 18 rfl) (by decide) (by omega) (by omega) (fun h2 => ?_) (fun h2 => ?_)
    · skip
      refine hz_iconst (pc := 34) (v := nI 0) (hz_dec kX9_twice 27 rfl) (by decide) ?_
      refine hz_ior (pc := 35) (hz_dec kX9_twice 28 rfl) ?_
      refine hz_iast (pc := 36) (j := i) (hz_dec kX9_twice 29 rfl) (va_up_self _ _ _) ha hz rfl (by omega) (by decide) ?_
      refine hz_mem (pc := 37) (M2 := (va_up M b (.inl (0, 8, .inl (upd f i ((((f i) <<< ((nI (1)) &&& 31)) ||| (nI (0))))))))) (bx_uu _ _ _ _) ?_
      refine hz_incN (pc := 37) (i := 1) (lo2 := [(1, .int (nI (i + 1))), (0, .ref b)]) 0 (hz_dec kX9_twice 30 rfl) rfl (by decide) rfl ?_
      refine hz_goto (pc := 40) (tgt := 2) (hz_dec kX9_twice 31 rfl) (by decide) ?_
      refine hz_pick (pc := 2) [0, 1] rfl ?_
      refine ih (8 - (i + 1)) (by omega) (i + 1) _ t rfl (by omega) (fun j hj => ?_) ?_
      · simp only [upd]; rw [if_neg (by omega)]; exact hs j (by omega)
      · rw [if_neg (by omega), Nat.pow_succ, hs i (Nat.le_refl _)]
        exact tw_st (c := 0) hv (tw_w (c := 0) (by decide))
    · skip
      refine hz_aloadn (pc := 23) 1 (hz_dec kX9_twice 19 rfl) rfl ?_
      refine hz_iloadn (pc := 24) 0 (hz_dec kX9_twice 20 rfl) rfl ?_
      refine hz_iconst (pc := 25) (v := nI 1) (hz_dec kX9_twice 21 rfl) (by decide) ?_
      refine hz_addN (pc := 26) (hz_dec kX9_twice 22 rfl) ?_
      refine hz_iald (pc := 27) (j := i + 1) (hz_dec kX9_twice 23 rfl) (va_up_self _ _ _) ha hz rfl (by omega) (by decide) ?_
      refine hz_bipush (pc := 28) (v := nI 31) (hz_dec kX9_twice 24 rfl) (by decide) ?_
      refine hz_iushr (pc := 30) (hz_dec kX9_twice 25 rfl) ?_
      refine hz_eqi (pc := 31) (w := nI (un (f (i + 1)) / 2147483648)) (by rw [ushr_nI _ (by decide), show (2 : Nat) ^ 31 = 2147483648 by decide]) ?_
      refine hz_goto (pc := 31) (tgt := 35) (hz_dec kX9_twice 26 rfl) (by decide) ?_
      refine hz_ior (pc := 35) (hz_dec kX9_twice 28 rfl) ?_
      refine hz_iast (pc := 36) (j := i) (hz_dec kX9_twice 29 rfl) (va_up_self _ _ _) ha hz rfl (by omega) (by decide) ?_
      refine hz_mem (pc := 37) (M2 := (va_up M b (.inl (0, 8, .inl (upd f i ((((f i) <<< ((nI (1)) &&& 31)) ||| (nI (un (f (i + 1)) / 2147483648))))))))) (bx_uu _ _ _ _) ?_
      refine hz_incN (pc := 37) (i := 1) (lo2 := [(1, .int (nI (i + 1))), (0, .ref b)]) 0 (hz_dec kX9_twice 30 rfl) rfl (by decide) rfl ?_
      refine hz_goto (pc := 40) (tgt := 2) (hz_dec kX9_twice 31 rfl) (by decide) ?_
      refine hz_pick (pc := 2) [0, 1] rfl ?_
      refine ih (8 - (i + 1)) (by omega) (i + 1) _ t rfl (by omega) (fun j hj => ?_) ?_
      · simp only [upd]; rw [if_neg (by omega)]; exact hs j (by omega)
      · rw [if_pos (by omega), Nat.pow_succ, hs i (Nat.le_refl _), hs (i + 1) (by omega)]
        exact tw_st (c := un (f0 (i + 1)) / 2147483648) hv (tw_w (c := un (f0 (i + 1)) / 2147483648) (by omega))
def w8_P (M : hz_M) (z b : Nat) (v : Nat) : hz_P := fun r z2 M2 => none = r ∧ z = z2 ∧ ∃ f : Nat → Int32, bg f 0 8 = v ∧ (va_up M b (.inl (0, 8, .inl f))) = M2
set_option maxHeartbeats 4000000 in
set_option maxRecDepth 100000 in
theorem c_twice {κ : hz_C} {z : Nat} {M : hz_M} {b : Nat} {f0 : Nat → Int32} (hM : M b = .inl (0, 8, .inl f0)) (ha : 8 ≤ b) (hz : b < z) (h2 : 2 * bg f0 0 8 < 4294967296 ^ 8) : hz_Mt κ xX9_twice 0 0 0 [.ref b] z M (w8_P M z b (2 * bg f0 0 8)) := by
  refine hz_ent (lo := [(0, .ref b)]) (by decide) (Nat.le_of_ble_eq_true rfl) rfl ?_
  refine hz_iconst (pc := 0) (v := nI 0) (hz_dec kX9_twice 0 rfl) (by decide) ?_
  refine hz_istoren (pc := 1) (i := 1) (lo2 := [(1, .int (nI 0)), (0, .ref b)]) (hz_dec kX9_twice 1 rfl) rfl (by decide) rfl ?_
  refine hz_pick (pc := 2) [0, 1] rfl ?_
  refine hz_mem (hz_upid hM).symm ?_
  refine c_twice_l hM ha hz (fun f t h => ⟨rfl, rfl, f, ?_, rfl⟩) 8 0 f0 (un (f0 0) / 2147483648) rfl (by omega) (fun _ _ => rfl) (by rw [if_pos (by decide), Nat.pow_zero, Nat.mul_one]; show 0 + _ = 2 * 0 + _; rw [Nat.mul_zero])
  generalize (4294967296 : Nat) ^ 8 = W8 at *
  rcases (show t = 0 ∨ 1 ≤ t by omega) with rfl | q
  · omega
  · have := Nat.mul_le_mul_right W8 q
    omega
set_option maxHeartbeats 4000000 in
set_option maxRecDepth 100000 in
theorem c_lessen_l {κ : hz_C} {z : Nat} {M : hz_M} {wb : Int32} (hO : M 20 = .inr (9, [.ref 21, .ref 22, .ref 23, .ref 24, .int wb])) (hz : 25 ≤ z) {g f0 : Nat → Int32} (h22 : M 22 = .inl (0, 8, .inl g)) (h23 : M 23 = .inl (0, 8, .inl f0)) {P : hz_P} (K : ∀ (f : Nat → Int32) (d : Nat), bg f 0 8 + bg g 0 8 = bg f0 0 8 + d * 4294967296 ^ 8 → P none z (va_up M 23 (.inl (0, 8, .inl f)))) : ∀ (k : Nat) (d : Nat) (f : Nat → Int32) (ix : Int32), ix = nI k - 1 → k ≤ 8 → d ≤ 1 → (∀ j, j < k → f j = f0 j) → bg f k (8 - k) + bg g k (8 - k) = bg f0 k (8 - k) + d * 4294967296 ^ (8 - k) → hz_W κ xX9_lessen 0 0 0 P 0 0 5 [(3, .int ix), (1, .long (bw d)), (0, .ref 20)] [] z (va_up M 23 (.inl (0, 8, .inl f))) := by
  intro k
  induction k with
  | zero =>
    intro d f ix hx hk hd hs hi
    refine hz_iloadn (pc := 5) 0 (hz_dec kX9_lessen 4 rfl) rfl ?_
    refine hz_if_lt (pc := 6) (tgt := 54) (hz_dec kX9_lessen 5 rfl) (by decide) (fun h1 => ?_) (fun h1 => ?_)
    · skip
      exact hz_vret (pc := 54) (hz_dec kX9_lessen 36 rfl) rfl (K f d hi)
    · skip
      exact absurd (by rw [hx]; decide) h1
  | succ k ih =>
    intro d f ix hx hk hd hs hi
    rw [nI_pred] at hx
    refine hz_iloadn (pc := 5) 0 (hz_dec kX9_lessen 4 rfl) rfl ?_
    refine hz_if_lt (pc := 6) (tgt := 54) (hz_dec kX9_lessen 5 rfl) (by decide) (fun h1 => ?_) (fun h1 => ?_)
    · skip
      exact absurd h1 (by rw [hx]; exact nI_pos (by omega))
    · skip
      subst hx
      have hu1 := un_lt (f k)
      have hu2 := un_lt (g k)
      have ef : f k = f0 k := hs k (by omega)
      refine hz_lloadn (pc := 9) 1 (hz_dec kX9_lessen 6 rfl) rfl ?_
      refine hz_aloadn (pc := 10) 2 (hz_dec kX9_lessen 7 rfl) rfl ?_
      refine hz_get (pc := 11) (hz_dec kX9_lessen 8 rfl) fo_X9_18 (hz_mne hO (by decide)) (by decide) (by omega) rfl ?_
      refine hz_iloadn (pc := 14) 0 (hz_dec kX9_lessen 9 rfl) rfl ?_
      refine hz_iald (pc := 15) (j := k) (hz_dec kX9_lessen 10 rfl) (va_up_self _ _ _) (by decide) (by omega) rfl (by omega) (by decide) ?_
      refine hz_i2l (pc := 16) (hz_dec kX9_lessen 11 rfl) ?_
      refine hz_ldc2 (pc := 17) (v := (4294967295)) (hz_dec kX9_lessen 12 rfl) ks_X9_28 ?_
      refine hz_land (pc := 20) (hz_dec kX9_lessen 13 rfl) ?_
      refine hz_eql (pc := 21) (i_lo32 (f k)) ?_
      refine hz_aloadn (pc := 21) 2 (hz_dec kX9_lessen 14 rfl) rfl ?_
      refine hz_get (pc := 22) (hz_dec kX9_lessen 15 rfl) fo_X9_15 (hz_mne hO (by decide)) (by decide) (by omega) rfl ?_
      refine hz_iloadn (pc := 25) 0 (hz_dec kX9_lessen 16 rfl) rfl ?_
      refine hz_iald (pc := 26) (j := k) (hz_dec kX9_lessen 17 rfl) (hz_mne h22 (by decide)) (by decide) (by omega) rfl (by omega) (by decide) ?_
      refine hz_i2l (pc := 27) (hz_dec kX9_lessen 18 rfl) ?_
      refine hz_ldc2 (pc := 28) (v := (4294967295)) (hz_dec kX9_lessen 19 rfl) ks_X9_28 ?_
      refine hz_land (pc := 31) (hz_dec kX9_lessen 20 rfl) ?_
      refine hz_eql (pc := 32) (i_lo32 (g k)) ?_
      refine hz_lsub (pc := 32) (hz_dec kX9_lessen 21 rfl) ?_
      refine hz_ladd (pc := 33) (hz_dec kX9_lessen 22 rfl) ?_
      rcases Nat.lt_or_ge (un (f k)) (un (g k) + d) with h2 | h2
      · skip
        refine hz_eql (pc := 34) (w := lN (18446744073709551616 + un (f k) - (un (g k) + d))) (tk_neg hd h2 hu1 hu2) ?_
        refine hz_lstoren (pc := 34) (i := 1) (lo2 := [(1, .long (lN (18446744073709551616 + un (f k) - (un (g k) + d)))), (3, .int (nI k)), (0, .ref 20)]) (hz_dec kX9_lessen 23 rfl) rfl (by decide) rfl ?_
        refine hz_aloadn (pc := 35) 2 (hz_dec kX9_lessen 24 rfl) rfl ?_
        refine hz_get (pc := 36) (hz_dec kX9_lessen 25 rfl) fo_X9_18 (hz_mne hO (by decide)) (by decide) (by omega) rfl ?_
        refine hz_iloadn (pc := 39) 1 (hz_dec kX9_lessen 26 rfl) rfl ?_
        refine hz_lloadn (pc := 40) 0 (hz_dec kX9_lessen 27 rfl) rfl ?_
        refine hz_l2i (pc := 41) (hz_dec kX9_lessen 28 rfl) ?_
        refine hz_eqi (pc := 42) (lN_i _) ?_
        refine hz_iast (pc := 42) (j := k) (hz_dec kX9_lessen 29 rfl) (va_up_self _ _ _) (by decide) (by omega) rfl (by omega) (by decide) ?_
        refine hz_lloadn (pc := 43) 0 (hz_dec kX9_lessen 30 rfl) rfl ?_
        refine hz_bipush (pc := 44) (v := nI 32) (hz_dec kX9_lessen 31 rfl) (by decide) ?_
        refine hz_lshr (pc := 46) (hz_dec kX9_lessen 32 rfl) ?_
        refine hz_eql (pc := 47) (w := bw 1) (by rw [show 18446744073709551616 + un (f k) - (un (g k) + d) = 18446744073709551616 - (un (g k) + d - un (f k)) by omega]; exact sh_neg (by omega) (by omega)) ?_
        refine hz_lstoren (pc := 47) (i := 1) (lo2 := [(1, .long (bw 1)), (3, .int (nI k)), (0, .ref 20)]) (hz_dec kX9_lessen 33 rfl) rfl (by decide) rfl ?_
        refine hz_mem (pc := 48) (M2 := (va_up M 23 (.inl (0, 8, .inl (upd f k ((nI (18446744073709551616 + un (f k) - (un (g k) + d))))))))) (bx_uu _ _ _ _) ?_
        refine hz_iinc (pc := 48) (i := 3) (w := nI k - 1) (lo2 := [(3, .int (nI k - 1)), (1, .long (bw 1)), (0, .ref 20)]) 1 (hz_dec kX9_lessen 34 rfl) rfl (hz_m1 k) (by decide) rfl ?_
        refine hz_goto (pc := 51) (tgt := 5) (hz_dec kX9_lessen 35 rfl) (by decide) ?_
        refine hz_pick (pc := 5) [0, 1, 2] rfl ?_
        have st := tk_step (f := f) (fa := f0) (fb := g) (k := k) (m := 8 - (k + 1)) (x2 := 4294967296 + un (f k) - (un (g k) + d)) (d2 := 1) hd rfl hi (by rw [← ef]; omega) (by omega)
        rw [show 8 - (k + 1) + 1 = 8 - k by omega] at st
        refine ih _ _ _ rfl (by omega) (by omega) (fun j hj => ?_) ?_
        · simp only [upd]; rw [if_neg (by omega)]; exact hs j (by omega)
        · rw [show nI (18446744073709551616 + un (f k) - (un (g k) + d)) = nI (4294967296 + un (f k) - (un (g k) + d)) from nI_md (by omega)]; exact st
      · skip
        refine hz_eql (pc := 34) (w := lN (un (f k) - (un (g k) + d))) (tk_pos hd h2) ?_
        refine hz_lstoren (pc := 34) (i := 1) (lo2 := [(1, .long (lN (un (f k) - (un (g k) + d)))), (3, .int (nI k)), (0, .ref 20)]) (hz_dec kX9_lessen 23 rfl) rfl (by decide) rfl ?_
        refine hz_aloadn (pc := 35) 2 (hz_dec kX9_lessen 24 rfl) rfl ?_
        refine hz_get (pc := 36) (hz_dec kX9_lessen 25 rfl) fo_X9_18 (hz_mne hO (by decide)) (by decide) (by omega) rfl ?_
        refine hz_iloadn (pc := 39) 1 (hz_dec kX9_lessen 26 rfl) rfl ?_
        refine hz_lloadn (pc := 40) 0 (hz_dec kX9_lessen 27 rfl) rfl ?_
        refine hz_l2i (pc := 41) (hz_dec kX9_lessen 28 rfl) ?_
        refine hz_eqi (pc := 42) (lN_i _) ?_
        refine hz_iast (pc := 42) (j := k) (hz_dec kX9_lessen 29 rfl) (va_up_self _ _ _) (by decide) (by omega) rfl (by omega) (by decide) ?_
        refine hz_lloadn (pc := 43) 0 (hz_dec kX9_lessen 30 rfl) rfl ?_
        refine hz_bipush (pc := 44) (v := nI 32) (hz_dec kX9_lessen 31 rfl) (by decide) ?_
        refine hz_lshr (pc := 46) (hz_dec kX9_lessen 32 rfl) ?_
        refine hz_eql (pc := 47) (w := bw 0) (sh_pos (by omega)) ?_
        refine hz_lstoren (pc := 47) (i := 1) (lo2 := [(1, .long (bw 0)), (3, .int (nI k)), (0, .ref 20)]) (hz_dec kX9_lessen 33 rfl) rfl (by decide) rfl ?_
        refine hz_mem (pc := 48) (M2 := (va_up M 23 (.inl (0, 8, .inl (upd f k ((nI (un (f k) - (un (g k) + d))))))))) (bx_uu _ _ _ _) ?_
        refine hz_iinc (pc := 48) (i := 3) (w := nI k - 1) (lo2 := [(3, .int (nI k - 1)), (1, .long (bw 0)), (0, .ref 20)]) 1 (hz_dec kX9_lessen 34 rfl) rfl (hz_m1 k) (by decide) rfl ?_
        refine hz_goto (pc := 51) (tgt := 5) (hz_dec kX9_lessen 35 rfl) (by decide) ?_
        refine hz_pick (pc := 5) [0, 1, 2] rfl ?_
        have st := tk_step (f := f) (fa := f0) (fb := g) (k := k) (m := 8 - (k + 1)) (x2 := un (f k) - (un (g k) + d)) (d2 := 0) hd rfl hi (by rw [← ef]; omega) (by omega)
        rw [show 8 - (k + 1) + 1 = 8 - k by omega] at st
        refine ih _ _ _ rfl (by omega) (by omega) (fun j hj => ?_) ?_
        · simp only [upd]; rw [if_neg (by omega)]; exact hs j (by omega)
        · exact st
set_option maxHeartbeats 4000000 in
set_option maxRecDepth 100000 in
theorem c_lessen {κ : hz_C} {z : Nat} {M : hz_M} {wb : Int32} (hO : M 20 = .inr (9, [.ref 21, .ref 22, .ref 23, .ref 24, .int wb])) (hz : 25 ≤ z) {g f0 : Nat → Int32} (h22 : M 22 = .inl (0, 8, .inl g)) (h23 : M 23 = .inl (0, 8, .inl f0)) (hle : bg g 0 8 ≤ bg f0 0 8) : hz_Mt κ xX9_lessen 0 0 0 [.ref 20] z M (w8_P M z 23 (bg f0 0 8 - bg g 0 8)) := by
  refine hz_ent (lo := [(0, .ref 20)]) (by decide) (Nat.le_of_ble_eq_true rfl) rfl ?_
  refine hz_lconst (pc := 0) (v := 0) (hz_dec kX9_lessen 0 rfl) (by decide) ?_
  refine hz_lstoren (pc := 1) (i := 1) (lo2 := [(1, .long 0), (0, .ref 20)]) (hz_dec kX9_lessen 1 rfl) rfl (by decide) rfl ?_
  refine hz_bipush (pc := 2) (v := nI 7) (hz_dec kX9_lessen 2 rfl) (by decide) ?_
  refine hz_istoren (pc := 4) (i := 3) (lo2 := [(3, .int (nI 7)), (1, .long 0), (0, .ref 20)]) (hz_dec kX9_lessen 3 rfl) rfl (by decide) rfl ?_
  refine hz_pick (pc := 5) [0, 1, 2] rfl ?_
  refine hz_mem (hz_upid h23).symm ?_
  refine c_lessen_l hO hz h22 h23 (fun f d h => ⟨rfl, rfl, f, ?_, rfl⟩) 8 0 f0 _ (by decide) (by omega) (by omega) (fun _ _ => rfl) rfl
  have l1 := bg_lt f 0 8
  have l2 := bg_lt g 0 8
  have l3 := bg_lt f0 0 8
  generalize (4294967296 : Nat) ^ 8 = W at *
  rcases (show d = 0 ∨ 1 ≤ d by omega) with rfl | hd
  · omega
  · have := Nat.mul_le_mul_right W hd
    omega
set_option maxHeartbeats 4000000 in
set_option maxRecDepth 100000 in
theorem c_mw_1 {κ : hz_C} {z : Nat} {M : hz_M} {wb : Int32} (hO : M 20 = .inr (9, [.ref 21, .ref 22, .ref 23, .ref 24, .int wb])) (hz : 25 ≤ z) {t0 f0 : Nat → Int32} (h21 : M 21 = .inl (0, 8, .inl t0)) (h22 : M 22 = .inl (0, 8, .inl f0)) {P : hz_P} (K : ∀ (f : Nat → Int32) (c : Nat), bg f 0 8 + c * 4294967296 ^ 8 = bg t0 0 8 + 1 → hz_W κ xX9_makeWork 2 0 0 P 0 0 65 [(0, .ref 20)] [] z (va_up M 22 (.inl (0, 8, .inl f)))) : ∀ (k : Nat) (c : Nat) (f : Nat → Int32) (ix : Int32), ix = nI k - 1 → k ≤ 8 → c ≤ 1 → bg f k (8 - k) + c * 4294967296 ^ (8 - k) = bg t0 k (8 - k) + 1 → hz_W κ xX9_makeWork 2 0 0 P 0 0 25 [(4, .int ix), (2, .long (lN c)), (0, .ref 20)] [] z (va_up M 22 (.inl (0, 8, .inl f))) := by
  intro k
  induction k with
  | zero =>
    intro c f ix hx hk hc hi
    refine hz_iload (pc := 25) 0 (hz_dec kX9_makeWork 15 rfl) rfl ?_
    refine hz_if_lt (pc := 27) (tgt := 65) (hz_dec kX9_makeWork 16 rfl) (by decide) (fun h1 => ?_) (fun h1 => ?_)
    · skip
      refine hz_pick (pc := 65) [2] rfl ?_
      exact K f c hi
    · skip
      exact absurd (by rw [hx]; decide) h1
  | succ k ih =>
    intro c f ix hx hk hc hi
    rw [nI_pred] at hx
    refine hz_iload (pc := 25) 0 (hz_dec kX9_makeWork 15 rfl) rfl ?_
    refine hz_if_lt (pc := 27) (tgt := 65) (hz_dec kX9_makeWork 16 rfl) (by decide) (fun h1 => ?_) (fun h1 => ?_)
    · skip
      exact absurd h1 (by rw [hx]; exact nI_pos (by omega))
    · skip
      subst hx
      have hu1 := un_lt (t0 k)
      refine hz_lloadn (pc := 30) 1 (hz_dec kX9_makeWork 17 rfl) rfl ?_
      refine hz_aloadn (pc := 31) 2 (hz_dec kX9_makeWork 18 rfl) rfl ?_
      refine hz_get (pc := 32) (hz_dec kX9_makeWork 19 rfl) fo_X9_9 (hz_mne hO (by decide)) (by decide) (by omega) rfl ?_
      refine hz_iload (pc := 35) 0 (hz_dec kX9_makeWork 20 rfl) rfl ?_
      refine hz_iald (pc := 37) (j := k) (hz_dec kX9_makeWork 21 rfl) (hz_mne h21 (by decide)) (by decide) (by omega) rfl (by omega) (by decide) ?_
      refine hz_i2l (pc := 38) (hz_dec kX9_makeWork 22 rfl) ?_
      refine hz_ldc2 (pc := 39) (v := (4294967295)) (hz_dec kX9_makeWork 23 rfl) ks_X9_28 ?_
      refine hz_land (pc := 42) (hz_dec kX9_makeWork 24 rfl) ?_
      refine hz_eql (pc := 43) (i_lo32 (t0 k)) ?_
      refine hz_ladd (pc := 43) (hz_dec kX9_makeWork 25 rfl) ?_
      refine hz_eql (pc := 44) (lN_add _ _) ?_
      refine hz_lstoren (pc := 44) (i := 2) (lo2 := [(2, .long (lN ((c) + (un (t0 k))))), (4, .int (nI k)), (0, .ref 20)]) (hz_dec kX9_makeWork 26 rfl) rfl (by decide) rfl ?_
      refine hz_aloadn (pc := 45) 2 (hz_dec kX9_makeWork 27 rfl) rfl ?_
      refine hz_get (pc := 46) (hz_dec kX9_makeWork 28 rfl) fo_X9_15 (hz_mne hO (by decide)) (by decide) (by omega) rfl ?_
      refine hz_iload (pc := 49) 1 (hz_dec kX9_makeWork 29 rfl) rfl ?_
      refine hz_lloadn (pc := 51) 0 (hz_dec kX9_makeWork 30 rfl) rfl ?_
      refine hz_l2i (pc := 52) (hz_dec kX9_makeWork 31 rfl) ?_
      refine hz_eqi (pc := 53) (lN_i _) ?_
      refine hz_iast (pc := 53) (j := k) (hz_dec kX9_makeWork 32 rfl) (va_up_self _ _ _) (by decide) (by omega) rfl (by omega) (by decide) ?_
      refine hz_lloadn (pc := 54) 0 (hz_dec kX9_makeWork 33 rfl) rfl ?_
      refine hz_bipush (pc := 55) (v := nI 32) (hz_dec kX9_makeWork 34 rfl) (by decide) ?_
      refine hz_lushr (pc := 57) (hz_dec kX9_makeWork 35 rfl) ?_
      refine hz_eql (pc := 58) (wb_shr (by omega) (by decide)) ?_
      refine hz_lstoren (pc := 58) (i := 2) (lo2 := [(2, .long (lN (((c) + (un (t0 k))) / 2 ^ 32))), (4, .int (nI k)), (0, .ref 20)]) (hz_dec kX9_makeWork 36 rfl) rfl (by decide) rfl ?_
      refine hz_mem (pc := 59) (M2 := (va_up M 22 (.inl (0, 8, .inl (upd f k ((nI ((c) + (un (t0 k)))))))))) (bx_uu _ _ _ _) ?_
      refine hz_iinc (pc := 59) (i := 4) (w := nI k - 1) (lo2 := [(4, .int (nI k - 1)), (2, .long (lN (((c) + (un (t0 k))) / 2 ^ 32))), (0, .ref 20)]) 1 (hz_dec kX9_makeWork 37 rfl) rfl (hz_m1 k) (by decide) rfl ?_
      refine hz_goto (pc := 62) (tgt := 25) (hz_dec kX9_makeWork 38 rfl) (by decide) ?_
      refine hz_pick (pc := 25) [0, 1, 2] rfl ?_
      have st := inc_step (f := f) (fa := t0) (k := k) (m := 8 - (k + 1)) rfl hi
      rw [show 8 - (k + 1) + 1 = 8 - k by omega] at st
      exact ih _ _ _ rfl (by omega) (by omega) st
