theorem nI_md {a b : Nat} (h : a % 4294967296 = b % 4294967296) : nI a = nI b := un_inj (by rw [un_nIm, un_nIm, h])

set_option maxHeartbeats 4000000 in
set_option maxRecDepth 100000 in
theorem c_takeB_l {κ : hz_C} {z : Nat} {M : hz_M} {b : Nat} {f0 : Nat → Int32} (hM : M b = .inl (0, 9, .inl f0)) (ha : 8 ≤ b) (hz : b < z) {b2 : Nat} {g : Nat → Int32} (hM2 : M b2 = .inl (0, 9, .inl g)) (ha2 : 8 ≤ b2) (hz2 : b2 < z) (hne : b2 ≠ b) {P : hz_P} (K : ∀ (f : Nat → Int32) (d : Nat), bg f 0 9 + bg g 0 9 = bg f0 0 9 + d * 4294967296 ^ 9 → P none z (va_up M b (.inl (0, 9, .inl f)))) : ∀ (k : Nat) (d : Nat) (f : Nat → Int32) (ix : Int32), ix = nI k - 1 → k ≤ 9 → d ≤ 1 → (∀ j, j < k → f j = f0 j) → bg f k (9 - k) + bg g k (9 - k) = bg f0 k (9 - k) + d * 4294967296 ^ (9 - k) → hz_W κ xX12_takeBig 0 0 0 P 0 0 6 [(4, .int ix), (2, .long (bw d)), (0, .ref b), (1, .ref b2)] [] z (va_up M b (.inl (0, 9, .inl f))) := by
  intro k
  induction k with
  | zero =>
    intro d f ix hx hk hd hs hi
    refine hz_iload (pc := 6) 0 (hz_dec kX12_takeBig 4 rfl) rfl ?_
    refine hz_if_lt (pc := 8) (tgt := 50) (hz_dec kX12_takeBig 5 rfl) (by decide) (fun h1 => ?_) (fun h1 => ?_)
    · skip
      exact hz_vret (pc := 50) (hz_dec kX12_takeBig 33 rfl) rfl (K f d hi)
    · skip
      exact absurd (by rw [hx]; decide) h1
  | succ k ih =>
    intro d f ix hx hk hd hs hi
    rw [nI_pred] at hx
    refine hz_iload (pc := 6) 0 (hz_dec kX12_takeBig 4 rfl) rfl ?_
    refine hz_if_lt (pc := 8) (tgt := 50) (hz_dec kX12_takeBig 5 rfl) (by decide) (fun h1 => ?_) (fun h1 => ?_)
    · skip
      exact absurd h1 (by rw [hx]; exact nI_pos (by omega))
    · skip
      subst hx
      have hu1 := un_lt (f k)
      have hu2 := un_lt (g k)
      have ef : f k = f0 k := hs k (by omega)
      refine hz_lloadn (pc := 11) 1 (hz_dec kX12_takeBig 6 rfl) rfl ?_
      refine hz_aloadn (pc := 12) 2 (hz_dec kX12_takeBig 7 rfl) rfl ?_
      refine hz_iload (pc := 13) 0 (hz_dec kX12_takeBig 8 rfl) rfl ?_
      refine hz_iald (pc := 15) (j := k) (hz_dec kX12_takeBig 9 rfl) (va_up_self _ _ _) ha hz rfl (by omega) (by decide) ?_
      refine hz_i2l (pc := 16) (hz_dec kX12_takeBig 10 rfl) ?_
      refine hz_ldc2 (pc := 17) (v := (4294967295)) (hz_dec kX12_takeBig 11 rfl) ks_X12_358 ?_
      refine hz_land (pc := 20) (hz_dec kX12_takeBig 12 rfl) ?_
      refine hz_eql (pc := 21) (i_lo32 (f k)) ?_
      refine hz_aloadn (pc := 21) 3 (hz_dec kX12_takeBig 13 rfl) rfl ?_
      refine hz_iload (pc := 22) 0 (hz_dec kX12_takeBig 14 rfl) rfl ?_
      refine hz_iald (pc := 24) (j := k) (hz_dec kX12_takeBig 15 rfl) (hz_mne hM2 hne) ha2 hz2 rfl (by omega) (by decide) ?_
      refine hz_i2l (pc := 25) (hz_dec kX12_takeBig 16 rfl) ?_
      refine hz_ldc2 (pc := 26) (v := (4294967295)) (hz_dec kX12_takeBig 17 rfl) ks_X12_358 ?_
      refine hz_land (pc := 29) (hz_dec kX12_takeBig 18 rfl) ?_
      refine hz_eql (pc := 30) (i_lo32 (g k)) ?_
      refine hz_lsub (pc := 30) (hz_dec kX12_takeBig 19 rfl) ?_
      refine hz_ladd (pc := 31) (hz_dec kX12_takeBig 20 rfl) ?_
      rcases Nat.lt_or_ge (un (f k)) (un (g k) + d) with h2 | h2
      · skip
        refine hz_eql (pc := 32) (w := lN (18446744073709551616 + un (f k) - (un (g k) + d))) (tk_neg hd h2 hu1 hu2) ?_
        refine hz_lstoren (pc := 32) (i := 2) (lo2 := [(2, .long (lN (18446744073709551616 + un (f k) - (un (g k) + d)))), (4, .int (nI k)), (0, .ref b), (1, .ref b2)]) (hz_dec kX12_takeBig 21 rfl) rfl (by decide) rfl ?_
        refine hz_aloadn (pc := 33) 2 (hz_dec kX12_takeBig 22 rfl) rfl ?_
        refine hz_iload (pc := 34) 1 (hz_dec kX12_takeBig 23 rfl) rfl ?_
        refine hz_lloadn (pc := 36) 0 (hz_dec kX12_takeBig 24 rfl) rfl ?_
        refine hz_l2i (pc := 37) (hz_dec kX12_takeBig 25 rfl) ?_
        refine hz_eqi (pc := 38) (lN_i _) ?_
        refine hz_iast (pc := 38) (j := k) (hz_dec kX12_takeBig 26 rfl) (va_up_self _ _ _) ha hz rfl (by omega) (by decide) ?_
        refine hz_lloadn (pc := 39) 0 (hz_dec kX12_takeBig 27 rfl) rfl ?_
        refine hz_bipush (pc := 40) (v := nI 32) (hz_dec kX12_takeBig 28 rfl) (by decide) ?_
        refine hz_lshr (pc := 42) (hz_dec kX12_takeBig 29 rfl) ?_
        refine hz_eql (pc := 43) (w := bw 1) (by rw [show 18446744073709551616 + un (f k) - (un (g k) + d) = 18446744073709551616 - (un (g k) + d - un (f k)) by omega]; exact sh_neg (by omega) (by omega)) ?_
        refine hz_lstoren (pc := 43) (i := 2) (lo2 := [(2, .long (bw 1)), (4, .int (nI k)), (0, .ref b), (1, .ref b2)]) (hz_dec kX12_takeBig 30 rfl) rfl (by decide) rfl ?_
        refine hz_mem (pc := 44) (M2 := (va_up M b (.inl (0, 9, .inl (upd f k ((nI (18446744073709551616 + un (f k) - (un (g k) + d))))))))) (bx_uu _ _ _ _) ?_
        refine hz_iinc (pc := 44) (i := 4) (w := nI k - 1) (lo2 := [(4, .int (nI k - 1)), (2, .long (bw 1)), (0, .ref b), (1, .ref b2)]) 1 (hz_dec kX12_takeBig 31 rfl) rfl (hz_m1 k) (by decide) rfl ?_
        refine hz_goto (pc := 47) (tgt := 6) (hz_dec kX12_takeBig 32 rfl) (by decide) ?_
        refine hz_pick (pc := 6) [0, 1, 2, 3] rfl ?_
        have st := tk_step (f := f) (fa := f0) (fb := g) (k := k) (m := 9 - (k + 1)) (x2 := 4294967296 + un (f k) - (un (g k) + d)) (d2 := 1) hd rfl hi (by rw [← ef]; omega) (by omega)
        rw [show 9 - (k + 1) + 1 = 9 - k by omega] at st
        refine ih _ _ _ rfl (by omega) (by omega) (fun j hj => ?_) ?_
        · simp only [upd]; rw [if_neg (by omega)]; exact hs j (by omega)
        · rw [show nI (18446744073709551616 + un (f k) - (un (g k) + d)) = nI (4294967296 + un (f k) - (un (g k) + d)) from nI_md (by omega)]; exact st
      · skip
        refine hz_eql (pc := 32) (w := lN (un (f k) - (un (g k) + d))) (tk_pos hd h2) ?_
        refine hz_lstoren (pc := 32) (i := 2) (lo2 := [(2, .long (lN (un (f k) - (un (g k) + d)))), (4, .int (nI k)), (0, .ref b), (1, .ref b2)]) (hz_dec kX12_takeBig 21 rfl) rfl (by decide) rfl ?_
        refine hz_aloadn (pc := 33) 2 (hz_dec kX12_takeBig 22 rfl) rfl ?_
        refine hz_iload (pc := 34) 1 (hz_dec kX12_takeBig 23 rfl) rfl ?_
        refine hz_lloadn (pc := 36) 0 (hz_dec kX12_takeBig 24 rfl) rfl ?_
        refine hz_l2i (pc := 37) (hz_dec kX12_takeBig 25 rfl) ?_
        refine hz_eqi (pc := 38) (lN_i _) ?_
        refine hz_iast (pc := 38) (j := k) (hz_dec kX12_takeBig 26 rfl) (va_up_self _ _ _) ha hz rfl (by omega) (by decide) ?_
        refine hz_lloadn (pc := 39) 0 (hz_dec kX12_takeBig 27 rfl) rfl ?_
        refine hz_bipush (pc := 40) (v := nI 32) (hz_dec kX12_takeBig 28 rfl) (by decide) ?_
        refine hz_lshr (pc := 42) (hz_dec kX12_takeBig 29 rfl) ?_
        refine hz_eql (pc := 43) (w := bw 0) (sh_pos (by omega)) ?_
        refine hz_lstoren (pc := 43) (i := 2) (lo2 := [(2, .long (bw 0)), (4, .int (nI k)), (0, .ref b), (1, .ref b2)]) (hz_dec kX12_takeBig 30 rfl) rfl (by decide) rfl ?_
        refine hz_mem (pc := 44) (M2 := (va_up M b (.inl (0, 9, .inl (upd f k ((nI (un (f k) - (un (g k) + d))))))))) (bx_uu _ _ _ _) ?_
        refine hz_iinc (pc := 44) (i := 4) (w := nI k - 1) (lo2 := [(4, .int (nI k - 1)), (2, .long (bw 0)), (0, .ref b), (1, .ref b2)]) 1 (hz_dec kX12_takeBig 31 rfl) rfl (hz_m1 k) (by decide) rfl ?_
        refine hz_goto (pc := 47) (tgt := 6) (hz_dec kX12_takeBig 32 rfl) (by decide) ?_
        refine hz_pick (pc := 6) [0, 1, 2, 3] rfl ?_
        have st := tk_step (f := f) (fa := f0) (fb := g) (k := k) (m := 9 - (k + 1)) (x2 := un (f k) - (un (g k) + d)) (d2 := 0) hd rfl hi (by rw [← ef]; omega) (by omega)
        rw [show 9 - (k + 1) + 1 = 9 - k by omega] at st
        refine ih _ _ _ rfl (by omega) (by omega) (fun j hj => ?_) ?_
        · simp only [upd]; rw [if_neg (by omega)]; exact hs j (by omega)
        · exact st
set_option maxHeartbeats 4000000 in
set_option maxRecDepth 100000 in
theorem c_takeB {κ : hz_C} {z : Nat} {M : hz_M} {b : Nat} {f0 : Nat → Int32} (hM : M b = .inl (0, 9, .inl f0)) (ha : 8 ≤ b) (hz : b < z) {b2 : Nat} {g : Nat → Int32} (hM2 : M b2 = .inl (0, 9, .inl g)) (ha2 : 8 ≤ b2) (hz2 : b2 < z) (hne : b2 ≠ b) (hle : bg g 0 9 ≤ bg f0 0 9) : hz_Mt κ xX12_takeBig 0 0 0 [.ref b, .ref b2] z M (bg_P M z b (bg f0 0 9 - bg g 0 9)) := by
  refine hz_ent (lo := [(0, .ref b), (1, .ref b2)]) (by decide) (Nat.le_of_ble_eq_true rfl) rfl ?_
  refine hz_lconst (pc := 0) (v := 0) (hz_dec kX12_takeBig 0 rfl) (by decide) ?_
  refine hz_lstoren (pc := 1) (i := 2) (lo2 := [(2, .long 0), (0, .ref b), (1, .ref b2)]) (hz_dec kX12_takeBig 1 rfl) rfl (by decide) rfl ?_
  refine hz_bipush (pc := 2) (v := nI 8) (hz_dec kX12_takeBig 2 rfl) (by decide) ?_
  refine hz_istore (pc := 4) (i := 4) (lo2 := [(4, .int (nI 8)), (2, .long 0), (0, .ref b), (1, .ref b2)]) (hz_dec kX12_takeBig 3 rfl) (by decide) rfl ?_
  refine hz_pick (pc := 6) [0, 1, 2, 3] rfl ?_
  refine hz_mem (hz_upid hM).symm ?_
  refine c_takeB_l hM ha hz hM2 ha2 hz2 hne (fun f d h => ⟨rfl, rfl, f, ?_, rfl⟩) 9 0 f0 _ (by decide) (by omega) (by omega) (fun _ _ => rfl) rfl
  have l1 := bg_lt f 0 9
  have l2 := bg_lt g 0 9
  have l3 := bg_lt f0 0 9
  generalize (4294967296 : Nat) ^ 9 = W at *
  rcases (show d = 0 ∨ 1 ≤ d by omega) with rfl | hd
  · omega
  · have := Nat.mul_le_mul_right W hd
    omega
set_option maxHeartbeats 4000000 in
set_option maxRecDepth 100000 in
theorem c_timesB_l {κ : hz_C} {z : Nat} {M : hz_M} {b : Nat} {f0 : Nat → Int32} (hM : M b = .inl (0, 9, .inl f0)) (ha : 8 ≤ b) (hz : b < z) {n : Nat} (hn : n < 2147483648) {P : hz_P} (K : ∀ (f : Nat → Int32) (c : Nat), bg f 0 9 + c * 4294967296 ^ 9 = bg f0 0 9 * n → P none z (va_up M b (.inl (0, 9, .inl f)))) : ∀ (k : Nat) (c : Nat) (f : Nat → Int32) (ix : Int32), ix = nI k - 1 → k ≤ 9 → c ≤ n → (∀ j, j < k → f j = f0 j) → bg f k (9 - k) + c * 4294967296 ^ (9 - k) = bg f0 k (9 - k) * n → hz_W κ xX12_timesBig 0 0 0 P 0 0 6 [(4, .int ix), (2, .long (lN c)), (0, .ref b), (1, .int (nI n))] [] z (va_up M b (.inl (0, 9, .inl f))) := by
  intro k
  induction k with
  | zero =>
    intro c f ix hx hk hc hs hi
    refine hz_iload (pc := 6) 0 (hz_dec kX12_timesBig 4 rfl) rfl ?_
    refine hz_if_lt (pc := 8) (tgt := 43) (hz_dec kX12_timesBig 5 rfl) (by decide) (fun h1 => ?_) (fun h1 => ?_)
    · skip
      exact hz_vret (pc := 43) (hz_dec kX12_timesBig 29 rfl) rfl (K f c hi)
    · skip
      exact absurd (by rw [hx]; decide) h1
  | succ k ih =>
    intro c f ix hx hk hc hs hi
    rw [nI_pred] at hx
    refine hz_iload (pc := 6) 0 (hz_dec kX12_timesBig 4 rfl) rfl ?_
    refine hz_if_lt (pc := 8) (tgt := 43) (hz_dec kX12_timesBig 5 rfl) (by decide) (fun h1 => ?_) (fun h1 => ?_)
    · skip
      exact absurd h1 (by rw [hx]; exact nI_pos (by omega))
    · skip
      subst hx
      have hu1 := un_lt (f k)
      have hu3 : un (f k) * n ≤ 4294967295 * n := Nat.mul_le_mul_right n (by omega)
      refine hz_lloadn (pc := 11) 1 (hz_dec kX12_timesBig 6 rfl) rfl ?_
      refine hz_aloadn (pc := 12) 2 (hz_dec kX12_timesBig 7 rfl) rfl ?_
      refine hz_iload (pc := 13) 0 (hz_dec kX12_timesBig 8 rfl) rfl ?_
      refine hz_iald (pc := 15) (j := k) (hz_dec kX12_timesBig 9 rfl) (va_up_self _ _ _) ha hz rfl (by omega) (by decide) ?_
      refine hz_i2l (pc := 16) (hz_dec kX12_timesBig 10 rfl) ?_
      refine hz_ldc2 (pc := 17) (v := (4294967295)) (hz_dec kX12_timesBig 11 rfl) ks_X12_358 ?_
      refine hz_land (pc := 20) (hz_dec kX12_timesBig 12 rfl) ?_
      refine hz_eql (pc := 21) (i_lo32 (f k)) ?_
      refine hz_iloadn (pc := 21) 3 (hz_dec kX12_timesBig 13 rfl) rfl ?_
      refine hz_i2l (pc := 22) (hz_dec kX12_timesBig 14 rfl) ?_
      refine hz_eql (pc := 23) (nI_l (by omega)) ?_
      refine hz_lmul (pc := 23) (hz_dec kX12_timesBig 15 rfl) ?_
      refine hz_eql (pc := 24) (lN_mul _ _) ?_
      refine hz_ladd (pc := 24) (hz_dec kX12_timesBig 16 rfl) ?_
      refine hz_eql (pc := 25) (lN_add _ _) ?_
      refine hz_lstoren (pc := 25) (i := 2) (lo2 := [(2, .long (lN ((c) + ((un (f k)) * (n))))), (4, .int (nI k)), (0, .ref b), (1, .int (nI n))]) (hz_dec kX12_timesBig 17 rfl) rfl (by decide) rfl ?_
      refine hz_aloadn (pc := 26) 2 (hz_dec kX12_timesBig 18 rfl) rfl ?_
      refine hz_iload (pc := 27) 1 (hz_dec kX12_timesBig 19 rfl) rfl ?_
      refine hz_lloadn (pc := 29) 0 (hz_dec kX12_timesBig 20 rfl) rfl ?_
      refine hz_l2i (pc := 30) (hz_dec kX12_timesBig 21 rfl) ?_
      refine hz_eqi (pc := 31) (lN_i _) ?_
      refine hz_iast (pc := 31) (j := k) (hz_dec kX12_timesBig 22 rfl) (va_up_self _ _ _) ha hz rfl (by omega) (by decide) ?_
      refine hz_lloadn (pc := 32) 0 (hz_dec kX12_timesBig 23 rfl) rfl ?_
      refine hz_bipush (pc := 33) (v := nI 32) (hz_dec kX12_timesBig 24 rfl) (by decide) ?_
      refine hz_lushr (pc := 35) (hz_dec kX12_timesBig 25 rfl) ?_
      refine hz_eql (pc := 36) (wb_shr (by omega) (by decide)) ?_
      refine hz_lstoren (pc := 36) (i := 2) (lo2 := [(2, .long (lN (((c) + ((un (f k)) * (n))) / 2 ^ 32))), (4, .int (nI k)), (0, .ref b), (1, .int (nI n))]) (hz_dec kX12_timesBig 26 rfl) rfl (by decide) rfl ?_
      refine hz_mem (pc := 37) (M2 := (va_up M b (.inl (0, 9, .inl (upd f k ((nI ((c) + ((un (f k)) * (n)))))))))) (bx_uu _ _ _ _) ?_
      refine hz_iinc (pc := 37) (i := 4) (w := nI k - 1) (lo2 := [(4, .int (nI k - 1)), (2, .long (lN (((c) + ((un (f k)) * (n))) / 2 ^ 32))), (0, .ref b), (1, .int (nI n))]) 1 (hz_dec kX12_timesBig 27 rfl) rfl (hz_m1 k) (by decide) rfl ?_
      refine hz_goto (pc := 40) (tgt := 6) (hz_dec kX12_timesBig 28 rfl) (by decide) ?_
      refine hz_pick (pc := 6) [0, 1, 2, 3] rfl ?_
      have ef : f k = f0 k := hs k (by omega)
      have st := tm_step (f := f) (fa := f0) (k := k) (m := 9 - (k + 1)) (n := n) rfl hi
      rw [show 9 - (k + 1) + 1 = 9 - k by omega] at st
      refine ih _ _ _ rfl (by omega) (by omega) (fun j hj => ?_) ?_
      · simp only [upd]; rw [if_neg (by omega)]; exact hs j (by omega)
      · rw [ef]; exact st
set_option maxHeartbeats 4000000 in
set_option maxRecDepth 100000 in
theorem c_timesB {κ : hz_C} {z : Nat} {M : hz_M} {b : Nat} {f0 : Nat → Int32} (hM : M b = .inl (0, 9, .inl f0)) (ha : 8 ≤ b) (hz : b < z) {n : Nat} (hn : n < 2147483648) : hz_Mt κ xX12_timesBig 0 0 0 [.ref b, .int (nI n)] z M (bg_P M z b (bg f0 0 9 * n % 4294967296 ^ 9)) := by
  refine hz_ent (lo := [(0, .ref b), (1, .int (nI n))]) (by decide) (Nat.le_of_ble_eq_true rfl) rfl ?_
  refine hz_lconst (pc := 0) (v := lN 0) (hz_dec kX12_timesBig 0 rfl) (by decide) ?_
  refine hz_lstoren (pc := 1) (i := 2) (lo2 := [(2, .long (lN 0)), (0, .ref b), (1, .int (nI n))]) (hz_dec kX12_timesBig 1 rfl) rfl (by decide) rfl ?_
  refine hz_bipush (pc := 2) (v := nI 8) (hz_dec kX12_timesBig 2 rfl) (by decide) ?_
  refine hz_istore (pc := 4) (i := 4) (lo2 := [(4, .int (nI 8)), (2, .long (lN 0)), (0, .ref b), (1, .int (nI n))]) (hz_dec kX12_timesBig 3 rfl) (by decide) rfl ?_
  refine hz_pick (pc := 6) [0, 1, 2, 3] rfl ?_
  refine hz_mem (hz_upid hM).symm ?_
  exact c_timesB_l hM ha hz hn (fun f c h => ⟨rfl, rfl, f, by rw [← h, Nat.add_mul_mod_self_right, Nat.mod_eq_of_lt (bg_lt f 0 9)], rfl⟩) 9 0 f0 _ (by decide) (by omega) (by omega) (fun _ _ => rfl) (by rw [show 9 - 9 = 0 from rfl]; simp [bg])
theorem bg_eU {f : Nat → Int32} {k n : Nat} {v : Int32} : bg (upd f k v) 0 (k + 1) = bg f 0 k * 4294967296 + un v := by
  show bg (upd f k v) 0 k * 4294967296 + un (upd f k v (0 + k)) = _
  rw [bg_up k (by omega), Nat.zero_add]
  simp [upd]
theorem by_step {f f0 : Nat → Int32} {k c n : Nat} (hn : 0 < n) (hn2 : n < 2147483648) (hc : c < n) (h : bg f 0 k * n + c = bg f0 0 k) (hf : f k = f0 k) :
    bg (upd f k (nI ((c * 4294967296 + un (f k)) / n))) 0 (k + 1) * n + (c * 4294967296 + un (f k)) % n = bg f0 0 (k + 1) := by
  rw [bg_eU (n := n)]
  have e2 : bg f0 0 (k + 1) = bg f0 0 k * 4294967296 + un (f0 (0 + k)) := rfl
  rw [e2, Nat.zero_add, ← h, ← hf]
  have hu := un_lt (f k)
  have hq : (c * 4294967296 + un (f k)) / n < 4294967296 := by
    rw [Nat.div_lt_iff_lt_mul hn]
    have : (c + 1) * 4294967296 ≤ n * 4294967296 := Nat.mul_le_mul_right _ hc
    omega
  rw [un_nI hq]
  have hdm := Nat.div_add_mod (c * 4294967296 + un (f k)) n
  rw [Nat.mul_comm n] at hdm
  generalize (c * 4294967296 + un (f k)) / n = q at *
  generalize (c * 4294967296 + un (f k)) % n = r at *
  rw [Nat.add_mul, Nat.add_mul, Nat.mul_right_comm]
  omega
set_option maxHeartbeats 4000000 in
set_option maxRecDepth 100000 in
theorem c_byB_l {κ : hz_C} {z : Nat} {M : hz_M} {b : Nat} {f0 : Nat → Int32} (hM : M b = .inl (0, 9, .inl f0)) (ha : 8 ≤ b) (hz : b < z) {n : Nat} (h0 : 0 < n) (hn : n < 2147483648) {P : hz_P} (K : ∀ (f : Nat → Int32) (c : Nat), c < n → bg f 0 9 * n + c = bg f0 0 9 → P none z (va_up M b (.inl (0, 9, .inl f)))) : ∀ k i c f, k = 9 - i → i ≤ 9 → c < n → (∀ j, i ≤ j → f j = f0 j) → bg f 0 i * n + c = bg f0 0 i → hz_W κ xX12_byBig 0 0 0 P 0 0 5 [(4, .int (nI i)), (2, .long (lN c)), (0, .ref b), (1, .int (nI n))] [] z (va_up M b (.inl (0, 9, .inl f))) := by
  intro k
  induction k using Nat.strongRecOn with
  | ind k ih =>
  intro i c f hk hi hc hs hv
  refine hz_iload (pc := 5) 0 (hz_dec kX12_byBig 4 rfl) rfl ?_
  refine hz_bipush (pc := 7) (v := nI 9) (hz_dec kX12_byBig 5 rfl) (by decide) ?_
  refine hz_n_ge (pc := 9) (tgt := 47) (hz_dec kX12_byBig 6 rfl) (by decide) (by omega) (by omega) (fun h1 => ?_) (fun h1 => ?_)
  · skip
    have e : i = 9 := by omega
    subst e
    exact hz_vret (pc := 47) (hz_dec kX12_byBig 33 rfl) rfl (K f c hc hv)
  · skip
    have hu1 := un_lt (f i)
    refine hz_lloadn (pc := 12) 1 (hz_dec kX12_byBig 7 rfl) rfl ?_
    refine hz_bipush (pc := 13) (v := nI 32) (hz_dec kX12_byBig 8 rfl) (by decide) ?_
    refine hz_lshl (pc := 15) (hz_dec kX12_byBig 9 rfl) ?_
    refine hz_eql (pc := 16) (w := lN (c * 4294967296)) (wb_shl c (k := 32) (by decide)) ?_
    refine hz_aloadn (pc := 16) 2 (hz_dec kX12_byBig 10 rfl) rfl ?_
    refine hz_iload (pc := 17) 0 (hz_dec kX12_byBig 11 rfl) rfl ?_
    refine hz_iald (pc := 19) (j := i) (hz_dec kX12_byBig 12 rfl) (va_up_self _ _ _) ha hz rfl (by omega) (by decide) ?_
    refine hz_i2l (pc := 20) (hz_dec kX12_byBig 13 rfl) ?_
    refine hz_ldc2 (pc := 21) (v := (4294967295)) (hz_dec kX12_byBig 14 rfl) ks_X12_358 ?_
    refine hz_land (pc := 24) (hz_dec kX12_byBig 15 rfl) ?_
    refine hz_eql (pc := 25) (i_lo32 (f i)) ?_
    refine hz_lor (pc := 25) (hz_dec kX12_byBig 16 rfl) ?_
    refine hz_eql (pc := 26) (w := lN (c * 4294967296 + un (f i))) (g_or (k := 32) (by decide) hu1 (by omega)) ?_
    have hnz : lN n ≠ 0 := fun e => by have := (pk_lEQ (a := n) (b := 0) (by omega) (by omega)).mp e; omega
    refine hz_lstoren (pc := 26) (i := 2) (lo2 := [(2, .long (lN (c * 4294967296 + un (f i)))), (4, .int (nI i)), (0, .ref b), (1, .int (nI n))]) (hz_dec kX12_byBig 17 rfl) rfl (by decide) rfl ?_
    refine hz_aloadn (pc := 27) 2 (hz_dec kX12_byBig 18 rfl) rfl ?_
    refine hz_iload (pc := 28) 1 (hz_dec kX12_byBig 19 rfl) rfl ?_
    refine hz_lloadn (pc := 30) 0 (hz_dec kX12_byBig 20 rfl) rfl ?_
    refine hz_iloadn (pc := 31) 3 (hz_dec kX12_byBig 21 rfl) rfl ?_
    refine hz_i2l (pc := 32) (hz_dec kX12_byBig 22 rfl) ?_
    refine hz_eql (pc := 33) (nI_l (by omega)) ?_
    refine hz_ldiv (pc := 33) (hz_dec kX12_byBig 23 rfl) hnz ?_
    refine hz_eql (pc := 34) (pk_lDiv (by omega) (by first | decide | assumption) (by omega)) ?_
    refine hz_l2i (pc := 34) (hz_dec kX12_byBig 24 rfl) ?_
    refine hz_eqi (pc := 35) (lN_i _) ?_
    refine hz_iast (pc := 35) (j := i) (hz_dec kX12_byBig 25 rfl) (va_up_self _ _ _) ha hz rfl (by omega) (by decide) ?_
    refine hz_lloadn (pc := 36) 0 (hz_dec kX12_byBig 26 rfl) rfl ?_
    refine hz_iloadn (pc := 37) 3 (hz_dec kX12_byBig 27 rfl) rfl ?_
    refine hz_i2l (pc := 38) (hz_dec kX12_byBig 28 rfl) ?_
    refine hz_eql (pc := 39) (nI_l (by omega)) ?_
    refine hz_lrem (pc := 39) (hz_dec kX12_byBig 29 rfl) hnz ?_
    refine hz_eql (pc := 40) (pk_lRem (by omega) (by first | decide | assumption) (by omega)) ?_
    refine hz_lstoren (pc := 40) (i := 2) (lo2 := [(2, .long (lN ((c * 4294967296 + un (f i)) % (n)))), (4, .int (nI i)), (0, .ref b), (1, .int (nI n))]) (hz_dec kX12_byBig 30 rfl) rfl (by decide) rfl ?_
    refine hz_mem (pc := 41) (M2 := (va_up M b (.inl (0, 9, .inl (upd f i ((nI ((c * 4294967296 + un (f i)) / (n))))))))) (bx_uu _ _ _ _) ?_
    refine hz_incN (pc := 41) (i := 4) (lo2 := [(4, .int (nI (i + 1))), (2, .long (lN ((c * 4294967296 + un (f i)) % (n)))), (0, .ref b), (1, .int (nI n))]) 1 (hz_dec kX12_byBig 31 rfl) rfl (by decide) rfl ?_
    refine hz_goto (pc := 44) (tgt := 5) (hz_dec kX12_byBig 32 rfl) (by decide) ?_
    refine hz_pick (pc := 5) [0, 1, 2, 3] rfl ?_
    refine ih (9 - (i + 1)) (by omega) (i + 1) _ _ rfl (by omega) (Nat.mod_lt _ h0) (fun j hj => ?_) ?_
    · simp only [upd]; rw [if_neg (by omega)]; exact hs j (by omega)
    · exact by_step h0 hn hc hv (hs i (by omega))
set_option maxHeartbeats 4000000 in
set_option maxRecDepth 100000 in
theorem c_byB {κ : hz_C} {z : Nat} {M : hz_M} {b : Nat} {f0 : Nat → Int32} (hM : M b = .inl (0, 9, .inl f0)) (ha : 8 ≤ b) (hz : b < z) {n : Nat} (h0 : 0 < n) (hn : n < 2147483648) : hz_Mt κ xX12_byBig 0 0 0 [.ref b, .int (nI n)] z M (bg_P M z b (bg f0 0 9 / n)) := by
  refine hz_ent (lo := [(0, .ref b), (1, .int (nI n))]) (by decide) (Nat.le_of_ble_eq_true rfl) rfl ?_
  refine hz_lconst (pc := 0) (v := lN 0) (hz_dec kX12_byBig 0 rfl) (by decide) ?_
  refine hz_lstoren (pc := 1) (i := 2) (lo2 := [(2, .long (lN 0)), (0, .ref b), (1, .int (nI n))]) (hz_dec kX12_byBig 1 rfl) rfl (by decide) rfl ?_
  refine hz_iconst (pc := 2) (v := nI 0) (hz_dec kX12_byBig 2 rfl) (by decide) ?_
  refine hz_istore (pc := 3) (i := 4) (lo2 := [(4, .int (nI 0)), (2, .long (lN 0)), (0, .ref b), (1, .int (nI n))]) (hz_dec kX12_byBig 3 rfl) (by decide) rfl ?_
  refine hz_pick (pc := 5) [0, 1, 2, 3] rfl ?_
  refine hz_mem (hz_upid hM).symm ?_
  refine c_byB_l hM ha hz h0 hn (fun f c hc h => ⟨rfl, rfl, f, ?_, rfl⟩) 9 0 0 f0 rfl (by omega) h0 (fun _ _ => rfl) (by simp [bg])
  rw [← h, Nat.mul_comm, Nat.mul_add_div h0, Nat.div_eq_of_lt hc, Nat.add_zero]
