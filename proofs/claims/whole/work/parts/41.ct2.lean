/-! a target that is moved, and its bits -/
def tgXf (N : Nat) : Nat → Nat → Nat
  | 0, e => e
  | k + 1, e => if N / 256 ^ (e - 3) ≤ 8388607 then e else tgXf N k (e + 1)
def tgX (N : Nat) : Nat := tgXf N 40 3
def tgBits (N : Nat) : Int32 := nI (tgX N * 16777216 + N / 256 ^ (tgX N - 3))
theorem tgXf_e {N e : Nat} (h : N / 256 ^ (e - 3) ≤ 8388607) : ∀ k e0, e0 ≤ e → e ≤ e0 + k → (∀ e', e0 ≤ e' → e' < e → 8388607 < N / 256 ^ (e' - 3)) → tgXf N k e0 = e := by
  intro k
  induction k with
  | zero => intro e0 h1 h2 _; show e0 = e; omega
  | succ k ih =>
    intro e0 h1 h2 h3
    show (if N / 256 ^ (e0 - 3) ≤ 8388607 then e0 else tgXf N k (e0 + 1)) = e
    rcases (show e0 = e ∨ e0 < e by omega) with rfl | hl
    · rw [if_pos h]
    · have := h3 e0 (Nat.le_refl _) hl
      rw [if_neg (by omega)]
      exact ih (e0 + 1) (by omega) (by omega) (fun e' a b => h3 e' (by omega) b)
theorem tgX_all {N e : Nat} (h3 : 3 ≤ e) (he : e ≤ 43) (h : N / 256 ^ (e - 3) ≤ 8388607) (h2 : ∀ e', 3 ≤ e' → e' < e → 8388607 < N / 256 ^ (e' - 3)) : tgX N = e := tgXf_e h 40 3 h3 (by omega) h2
theorem tgX_e {N e : Nat} (h3 : 3 ≤ e) (he : e ≤ 43) (h : N / 256 ^ (e - 3) ≤ 8388607) (h2 : e = 3 ∨ 8388607 < N / 256 ^ (e - 4)) : tgX N = e := by
  refine tgX_all h3 he h (fun e' a b => ?_)
  rcases h2 with q | q
  · omega
  · exact Nat.lt_of_lt_of_le q (Nat.div_le_div_left (Nat.pow_le_pow_right (by decide) (by omega)) (Nat.pow_pos (by decide)))
theorem tgBits_e {N e : Nat} (h3 : 3 ≤ e) (he : e ≤ 43) (h : N / 256 ^ (e - 3) ≤ 8388607) (h2 : e = 3 ∨ 8388607 < N / 256 ^ (e - 4)) : tgBits N = nI (e * 16777216 + N / 256 ^ (e - 3)) := by
  unfold tgBits
  rw [tgX_e h3 he h h2]
theorem by_stepR {f : Nat → Int32} {k c n R : Nat} (hn : 0 < n) (hc : c < n) (h : bg f 0 k * n + c = R) :
    bg (upd f k (nI ((c * 4294967296 + un (f k)) / n))) 0 (k + 1) * n + (c * 4294967296 + un (f k)) % n = R * 4294967296 + un (f k) := by
  rw [bg_eU (n := n), ← h]
  have hu := un_lt (f k)
  have hq : (c * 4294967296 + un (f k)) / n < 4294967296 := by
    rw [Nat.div_lt_iff_lt_mul hn]
    have : (c + 1) * 4294967296 ≤ n * 4294967296 := Nat.mul_le_mul_right _ hc
    omega
  rw [un_nI hq]
  have hdm := Nat.div_add_mod (c * 4294967296 + un (f k)) n
  rw [Nat.mul_comm n] at hdm
  generalize (c * 4294967296 + un (f k)) / n = q at *
  generalize (c * 4294967296 + un (f k)) % n = r at *
  rw [Nat.add_mul, Nat.add_mul, Nat.mul_right_comm]
  omega
set_option maxHeartbeats 4000000 in
set_option maxRecDepth 100000 in
theorem c_scale_1 {κ : hz_C} {z : Nat} {M : hz_M} {wb : Int32} (hO : M 20 = .inr (9, [.ref 21, .ref 22, .ref 23, .ref 24, .int wb])) (hz : 25 ≤ z) {f0 : Nat → Int32} (h21 : M 21 = .inl (0, 8, .inl f0)) {n : Nat} (hn : n < 2147483648) {P : hz_P} (K : ∀ (f : Nat → Int32) (c : Nat), bg f 0 8 + c * 4294967296 ^ 8 = bg f0 0 8 * n → hz_W κ xX9_scale 2 0 0 P 0 0 49 [(2, .long (lN c)), (0, .ref 20)] [] z (va_up M 21 (.inl (0, 8, .inl f)))) : ∀ (k : Nat) (c : Nat) (f : Nat → Int32) (ix : Int32), ix = nI k - 1 → k ≤ 8 → c ≤ n → (∀ j, j < k → f j = f0 j) → bg f k (8 - k) + c * 4294967296 ^ (8 - k) = bg f0 k (8 - k) * n → hz_W κ xX9_scale 2 0 0 P 0 0 6 [(4, .int ix), (2, .long (lN c)), (0, .ref 20), (1, .int (nI n))] [] z (va_up M 21 (.inl (0, 8, .inl f))) := by
  intro k
  induction k with
  | zero =>
    intro c f ix hx hk hc hs hi
    refine hz_iload (pc := 6) 0 (hz_dec kX9_scale 4 rfl) rfl ?_
    refine hz_if_lt (pc := 8) (tgt := 49) (hz_dec kX9_scale 5 rfl) (by decide) (fun h1 => ?_) (fun h1 => ?_)
    · skip
      refine hz_pick (pc := 49) [1, 2] rfl ?_
      exact K f c hi
    · skip
      exact absurd (by rw [hx]; decide) h1
  | succ k ih =>
    intro c f ix hx hk hc hs hi
    rw [nI_pred] at hx
    refine hz_iload (pc := 6) 0 (hz_dec kX9_scale 4 rfl) rfl ?_
    refine hz_if_lt (pc := 8) (tgt := 49) (hz_dec kX9_scale 5 rfl) (by decide) (fun h1 => ?_) (fun h1 => ?_)
    · skip
      exact absurd h1 (by rw [hx]; exact nI_pos (by omega))
    · skip
      subst hx
      have hu1 := un_lt (f k)
      have hu3 : un (f k) * n ≤ 4294967295 * n := Nat.mul_le_mul_right n (by omega)
      refine hz_lloadn (pc := 11) 1 (hz_dec kX9_scale 6 rfl) rfl ?_
      refine hz_aloadn (pc := 12) 2 (hz_dec kX9_scale 7 rfl) rfl ?_
      refine hz_get (pc := 13) (hz_dec kX9_scale 8 rfl) fo_X9_9 (hz_mne hO (by decide)) (by decide) (by omega) rfl ?_
      refine hz_iload (pc := 16) 0 (hz_dec kX9_scale 9 rfl) rfl ?_
      refine hz_iald (pc := 18) (j := k) (hz_dec kX9_scale 10 rfl) (va_up_self _ _ _) (by decide) (by omega) rfl (by omega) (by decide) ?_
      refine hz_i2l (pc := 19) (hz_dec kX9_scale 11 rfl) ?_
      refine hz_ldc2 (pc := 20) (v := (4294967295)) (hz_dec kX9_scale 12 rfl) ks_X9_28 ?_
      refine hz_land (pc := 23) (hz_dec kX9_scale 13 rfl) ?_
      refine hz_eql (pc := 24) (i_lo32 (f k)) ?_
      refine hz_iloadn (pc := 24) 3 (hz_dec kX9_scale 14 rfl) rfl ?_
      refine hz_i2l (pc := 25) (hz_dec kX9_scale 15 rfl) ?_
      refine hz_eql (pc := 26) (nI_l (by omega)) ?_
      refine hz_lmul (pc := 26) (hz_dec kX9_scale 16 rfl) ?_
      refine hz_eql (pc := 27) (lN_mul _ _) ?_
      refine hz_ladd (pc := 27) (hz_dec kX9_scale 17 rfl) ?_
      refine hz_eql (pc := 28) (lN_add _ _) ?_
      refine hz_lstoren (pc := 28) (i := 2) (lo2 := [(2, .long (lN ((c) + ((un (f k)) * (n))))), (4, .int (nI k)), (0, .ref 20), (1, .int (nI n))]) (hz_dec kX9_scale 18 rfl) rfl (by decide) rfl ?_
      refine hz_aloadn (pc := 29) 2 (hz_dec kX9_scale 19 rfl) rfl ?_
      refine hz_get (pc := 30) (hz_dec kX9_scale 20 rfl) fo_X9_9 (hz_mne hO (by decide)) (by decide) (by omega) rfl ?_
      refine hz_iload (pc := 33) 1 (hz_dec kX9_scale 21 rfl) rfl ?_
      refine hz_lloadn (pc := 35) 0 (hz_dec kX9_scale 22 rfl) rfl ?_
      refine hz_l2i (pc := 36) (hz_dec kX9_scale 23 rfl) ?_
      refine hz_eqi (pc := 37) (lN_i _) ?_
      refine hz_iast (pc := 37) (j := k) (hz_dec kX9_scale 24 rfl) (va_up_self _ _ _) (by decide) (by omega) rfl (by omega) (by decide) ?_
      refine hz_lloadn (pc := 38) 0 (hz_dec kX9_scale 25 rfl) rfl ?_
      refine hz_bipush (pc := 39) (v := nI 32) (hz_dec kX9_scale 26 rfl) (by decide) ?_
      refine hz_lushr (pc := 41) (hz_dec kX9_scale 27 rfl) ?_
      refine hz_eql (pc := 42) (wb_shr (by omega) (by decide)) ?_
      refine hz_lstoren (pc := 42) (i := 2) (lo2 := [(2, .long (lN (((c) + ((un (f k)) * (n))) / 2 ^ 32))), (4, .int (nI k)), (0, .ref 20), (1, .int (nI n))]) (hz_dec kX9_scale 28 rfl) rfl (by decide) rfl ?_
      refine hz_mem (pc := 43) (M2 := (va_up M 21 (.inl (0, 8, .inl (upd f k ((nI ((c) + ((un (f k)) * (n)))))))))) (bx_uu _ _ _ _) ?_
      refine hz_iinc (pc := 43) (i := 4) (w := nI k - 1) (lo2 := [(4, .int (nI k - 1)), (2, .long (lN (((c) + ((un (f k)) * (n))) / 2 ^ 32))), (0, .ref 20), (1, .int (nI n))]) 1 (hz_dec kX9_scale 29 rfl) rfl (hz_m1 k) (by decide) rfl ?_
      refine hz_goto (pc := 46) (tgt := 6) (hz_dec kX9_scale 30 rfl) (by decide) ?_
      refine hz_pick (pc := 6) [0, 1, 2, 3] rfl ?_
      have ef : f k = f0 k := hs k (by omega)
      have st := tm_step (f := f) (fa := f0) (k := k) (m := 8 - (k + 1)) (n := n) rfl hi
      rw [show 8 - (k + 1) + 1 = 8 - k by omega] at st
      refine ih _ _ _ rfl (by omega) (by omega) (fun j hj => ?_) ?_
      · simp only [upd]; rw [if_neg (by omega)]; exact hs j (by omega)
      · rw [ef]; exact st
set_option maxHeartbeats 4000000 in
set_option maxRecDepth 100000 in
theorem c_scale_2 {κ : hz_C} {z : Nat} {M : hz_M} {wb : Int32} (hO : M 20 = .inr (9, [.ref 21, .ref 22, .ref 23, .ref 24, .int wb])) (hz : 25 ≤ z) {f0 : Nat → Int32} (h21 : M 21 = .inl (0, 8, .inl f0)) {c0 : Nat} {P : hz_P} (K : ∀ (f : Nat → Int32) (c : Nat), c < 160 → bg f 0 8 * 160 + c = c0 * 4294967296 ^ 8 + bg f0 0 8 → hz_W κ xX9_scale 2 0 0 P 0 0 102 [(0, .ref 20)] [] z (va_up M 21 (.inl (0, 8, .inl f)))) : ∀ k i c f, k = 8 - i → i ≤ 8 → c < 160 → (∀ j, i ≤ j → f j = f0 j) → bg f 0 i * 160 + c = c0 * 4294967296 ^ i + bg f0 0 i → hz_W κ xX9_scale 2 0 0 P 0 0 52 [(4, .int (nI i)), (2, .long (lN c)), (0, .ref 20)] [] z (va_up M 21 (.inl (0, 8, .inl f))) := by
  intro k
  induction k using Nat.strongRecOn with
  | ind k ih =>
  intro i c f hk hi hc hs hv
  refine hz_iload (pc := 52) 0 (hz_dec kX9_scale 33 rfl) rfl ?_
  refine hz_bipush (pc := 54) (v := nI 8) (hz_dec kX9_scale 34 rfl) (by decide) ?_
  refine hz_n_ge (pc := 56) (tgt := 102) (hz_dec kX9_scale 35 rfl) (by decide) (by omega) (by omega) (fun h1 => ?_) (fun h1 => ?_)
  · skip
    have e : i = 8 := by omega
    subst e
    refine hz_pick (pc := 102) [2] rfl ?_
    exact K f c hc hv
  · skip
    have hu1 := un_lt (f i)
    refine hz_lloadn (pc := 59) 1 (hz_dec kX9_scale 36 rfl) rfl ?_
    refine hz_bipush (pc := 60) (v := nI 32) (hz_dec kX9_scale 37 rfl) (by decide) ?_
    refine hz_lshl (pc := 62) (hz_dec kX9_scale 38 rfl) ?_
    refine hz_eql (pc := 63) (w := lN (c * 4294967296)) (wb_shl c (k := 32) (by decide)) ?_
    refine hz_aloadn (pc := 63) 2 (hz_dec kX9_scale 39 rfl) rfl ?_
    refine hz_get (pc := 64) (hz_dec kX9_scale 40 rfl) fo_X9_9 (hz_mne hO (by decide)) (by decide) (by omega) rfl ?_
    refine hz_iload (pc := 67) 0 (hz_dec kX9_scale 41 rfl) rfl ?_
    refine hz_iald (pc := 69) (j := i) (hz_dec kX9_scale 42 rfl) (va_up_self _ _ _) (by decide) (by omega) rfl (by omega) (by decide) ?_
    refine hz_i2l (pc := 70) (hz_dec kX9_scale 43 rfl) ?_
    refine hz_ldc2 (pc := 71) (v := (4294967295)) (hz_dec kX9_scale 44 rfl) ks_X9_28 ?_
    refine hz_land (pc := 74) (hz_dec kX9_scale 45 rfl) ?_
    refine hz_eql (pc := 75) (i_lo32 (f i)) ?_
    refine hz_lor (pc := 75) (hz_dec kX9_scale 46 rfl) ?_
    refine hz_eql (pc := 76) (w := lN (c * 4294967296 + un (f i))) (g_or (k := 32) (by decide) hu1 (by omega)) ?_
    refine hz_lstoren (pc := 76) (i := 2) (lo2 := [(2, .long (lN (c * 4294967296 + un (f i)))), (4, .int (nI i)), (0, .ref 20)]) (hz_dec kX9_scale 47 rfl) rfl (by decide) rfl ?_
    refine hz_aloadn (pc := 77) 2 (hz_dec kX9_scale 48 rfl) rfl ?_
    refine hz_get (pc := 78) (hz_dec kX9_scale 49 rfl) fo_X9_9 (hz_mne hO (by decide)) (by decide) (by omega) rfl ?_
    refine hz_iload (pc := 81) 1 (hz_dec kX9_scale 50 rfl) rfl ?_
    refine hz_lloadn (pc := 83) 0 (hz_dec kX9_scale 51 rfl) rfl ?_
    refine hz_ldc2 (pc := 84) (v := 160) (hz_dec kX9_scale 52 rfl) ks_X9_44 ?_
    refine hz_eql (pc := 87) (w := lN 160) rfl ?_
    refine hz_ldiv (pc := 87) (hz_dec kX9_scale 53 rfl) (by decide) ?_
    refine hz_eql (pc := 88) (pk_lDiv (by omega) (by first | decide | assumption) (by omega)) ?_
    refine hz_l2i (pc := 88) (hz_dec kX9_scale 54 rfl) ?_
    refine hz_eqi (pc := 89) (lN_i _) ?_
    refine hz_iast (pc := 89) (j := i) (hz_dec kX9_scale 55 rfl) (va_up_self _ _ _) (by decide) (by omega) rfl (by omega) (by decide) ?_
    refine hz_lloadn (pc := 90) 0 (hz_dec kX9_scale 56 rfl) rfl ?_
    refine hz_ldc2 (pc := 91) (v := 160) (hz_dec kX9_scale 57 rfl) ks_X9_44 ?_
    refine hz_eql (pc := 94) (w := lN 160) rfl ?_
    refine hz_lrem (pc := 94) (hz_dec kX9_scale 58 rfl) (by decide) ?_
    refine hz_eql (pc := 95) (pk_lRem (by omega) (by first | decide | assumption) (by omega)) ?_
    refine hz_lstoren (pc := 95) (i := 2) (lo2 := [(2, .long (lN ((c * 4294967296 + un (f i)) % (160)))), (4, .int (nI i)), (0, .ref 20)]) (hz_dec kX9_scale 59 rfl) rfl (by decide) rfl ?_
    refine hz_mem (pc := 96) (M2 := (va_up M 21 (.inl (0, 8, .inl (upd f i ((nI ((c * 4294967296 + un (f i)) / (160))))))))) (bx_uu _ _ _ _) ?_
    refine hz_incN (pc := 96) (i := 4) (lo2 := [(4, .int (nI (i + 1))), (2, .long (lN ((c * 4294967296 + un (f i)) % (160)))), (0, .ref 20)]) 1 (hz_dec kX9_scale 60 rfl) rfl (by decide) rfl ?_
    refine hz_goto (pc := 99) (tgt := 52) (hz_dec kX9_scale 61 rfl) (by decide) ?_
    refine hz_pick (pc := 52) [0, 1, 2] rfl ?_
    refine ih (8 - (i + 1)) (by omega) (i + 1) _ _ rfl (by omega) (Nat.mod_lt _ (by decide)) (fun j hj => ?_) ?_
    · simp only [upd]; rw [if_neg (by omega)]; exact hs j (by omega)
    · rw [by_stepR (by decide) hc hv, Nat.add_mul, Nat.mul_assoc, ← Nat.pow_succ, hs i (by omega), Nat.add_assoc]
      show _ = _ + (bg f0 0 i * 4294967296 + un (f0 (0 + i)))
      rw [Nat.zero_add]
theorem sc_top {f : Nat → Int32} : tgT 537919487 ≤ bg f 0 8 ↔ 268435200 ≤ un (f 0) := by
  have e : tgT 537919487 = 268435200 * 4294967296 ^ 7 := rfl
  have hl := bg_lt f 1 7
  rw [e, bg_cons]
  constructor
  · intro h
    rcases Nat.lt_or_ge (un (f 0)) 268435200 with q | q
    · have := Nat.mul_le_mul_right (4294967296 ^ 7) (show un (f 0) + 1 ≤ 268435200 from q)
      rw [Nat.add_mul] at this
      generalize (4294967296 : Nat) ^ 7 = W at *
      rw [Nat.zero_add] at h
      omega
    · exact q
  · intro h
    exact Nat.le_trans (Nat.mul_le_mul_right _ h) (Nat.le_add_right _ _)
theorem sc_c {c n T F : Nat} (hT : T ≤ tgT 537919487) (hn : n ≤ 640) (h : F + c * 4294967296 ^ 8 = T * n) : c < 160 := by
  rcases Nat.lt_or_ge c 160 with q | q
  · exact q
  · have h1 := Nat.mul_le_mul_right (4294967296 ^ 8) q
    have h2 : T * n ≤ tgT 537919487 * 640 := Nat.mul_le_mul hT hn
    have h3 : tgT 537919487 * 640 < 160 * 4294967296 ^ 8 := by decide +kernel
    exact absurd (Nat.lt_of_le_of_lt (Nat.le_trans h1 (Nat.le_trans (Nat.le_add_left _ F) (h ▸ h2))) h3) (Nat.lt_irrefl _)
set_option maxHeartbeats 4000000 in
set_option maxRecDepth 100000 in
theorem c_scale {κ : hz_C} {z : Nat} {M : hz_M} {wb : Int32} (hO : M 20 = .inr (9, [.ref 21, .ref 22, .ref 23, .ref 24, .int wb])) (hz : 25 ≤ z) {f0 : Nat → Int32} (h21 : M 21 = .inl (0, 8, .inl f0)) {n : Nat} (hn : n ≤ 640) (hT : bg f0 0 8 ≤ tgT 537919487) : hz_Mt κ xX9_scale 2 0 0 [.ref 20, .int (nI n)] z M (tg_P M z (min (bg f0 0 8 * n / 160) (tgT 537919487))) := by
  refine hz_ent (lo := [(0, .ref 20), (1, .int (nI n))]) (by decide) (Nat.le_of_ble_eq_true rfl) rfl ?_
  refine hz_lconst (pc := 0) (v := lN 0) (hz_dec kX9_scale 0 rfl) (by decide) ?_
  refine hz_lstoren (pc := 1) (i := 2) (lo2 := [(2, .long (lN 0)), (0, .ref 20), (1, .int (nI n))]) (hz_dec kX9_scale 1 rfl) rfl (by decide) rfl ?_
  refine hz_bipush (pc := 2) (v := nI 7) (hz_dec kX9_scale 2 rfl) (by decide) ?_
  refine hz_istore (pc := 4) (i := 4) (lo2 := [(4, .int (nI 7)), (2, .long (lN 0)), (0, .ref 20), (1, .int (nI n))]) (hz_dec kX9_scale 3 rfl) (by decide) rfl ?_
  refine hz_pick (pc := 6) [0, 1, 2, 3] rfl ?_
  refine hz_mem (hz_upid h21).symm ?_
  refine c_scale_1 hO hz h21 (by omega) (fun f1 c1 hc1 => ?_) 8 0 f0 _ (by decide) (by omega) (by omega) (fun _ _ => rfl) (by rw [show 8 - 8 = 0 from rfl]; simp [bg])
  have hc2 := sc_c hT hn hc1
  refine hz_iconst (pc := 49) (v := nI 0) (hz_dec kX9_scale 31 rfl) (by decide) ?_
  refine hz_istore (pc := 50) (i := 4) (lo2 := [(4, .int (nI 0)), (2, .long (lN c1)), (0, .ref 20)]) (hz_dec kX9_scale 32 rfl) (by decide) rfl ?_
  refine hz_pick (pc := 52) [0, 1, 2] rfl ?_
  refine hz_mem (pc := 52) (hz_upid (va_up_self _ _ _)).symm ?_
  refine c_scale_2 (M := va_up M 21 (.inl (0, 8, .inl f1))) (hz_mne hO (by decide)) hz (va_up_self _ _ _) (c0 := c1) (fun f2 c2 hl2 hv2 => ?_) 8 0 c1 f1 rfl (by omega) hc2 (fun _ _ => rfl) (by simp [bg])
  have hN : bg f2 0 8 = bg f0 0 8 * n / 160 := by rw [← hc1, Nat.add_comm (bg f1 0 8), ← hv2, Nat.mul_comm, Nat.mul_add_div (by decide), Nat.div_eq_of_lt hl2, Nat.add_zero]
  refine hz_mem (pc := 102) (M2 := va_up M 21 (.inl (0, 8, .inl f2))) (bx_uu _ _ _ _) ?_
  refine hz_aloadn (pc := 102) 0 (hz_dec kX9_scale 62 rfl) rfl ?_
  refine hz_get (pc := 103) (hz_dec kX9_scale 63 rfl) fo_X9_9 (hz_mne hO (by decide)) (by decide) (by omega) rfl ?_
  refine hz_iconst (pc := 106) (v := nI 0) (hz_dec kX9_scale 64 rfl) (by decide) ?_
  refine hz_iald (pc := 107) (j := 0) (hz_dec kX9_scale 65 rfl) (va_up_self _ _ _) (by decide) (by omega) rfl (by omega) (by decide) ?_
  refine hz_i2l (pc := 108) (hz_dec kX9_scale 66 rfl) ?_
  refine hz_ldc2 (pc := 109) (v := (4294967295)) (hz_dec kX9_scale 67 rfl) ks_X9_28 ?_
  refine hz_land (pc := 112) (hz_dec kX9_scale 68 rfl) ?_
  refine hz_eql (pc := 113) (i_lo32 (f2 0)) ?_
  refine hz_ldc2 (pc := 113) (v := 268435200) (hz_dec kX9_scale 69 rfl) ks_X9_46 ?_
  refine hz_eql (pc := 116) (w := lN 268435200) rfl ?_
  refine hz_lcmp (pc := 116) (hz_dec kX9_scale 70 rfl) ?_
  have hu := un_lt (f2 0)
  refine hz_if_lt (pc := 117) (tgt := 126) (hz_dec kX9_scale 71 rfl) (by decide) (fun h5 => ?_) (fun h5 => ?_)
  · skip
    have hl := (lc_lt (by omega) (by omega)).mp h5
    exact hz_vret (pc := 126) (hz_dec kX9_scale 75 rfl) rfl ⟨rfl, rfl, f2, by rw [← hN, Nat.min_eq_left]; exact Nat.le_of_lt (Nat.lt_of_not_le (fun q => absurd (sc_top.mp q) (by omega))), rfl⟩
  · skip
    have hl : 268435200 ≤ un (f2 0) := Nat.le_of_not_lt (fun q => h5 ((lc_lt (by omega) (by omega)).mpr q))
    refine hz_aloadn (pc := 120) 0 (hz_dec kX9_scale 72 rfl) rfl ?_
    refine hz_ldc (pc := 121) (v := nI 537919487) (hz_dec kX9_scale 73 rfl) ks_X9_48 ?_
    refine hz_callV (pc := 123) (a := 20) (As := [.int (nI 537919487)]) (st := []) (hz_dec kX9_scale 74 rfl) co_X9_49 im_X9_load se_X9_load rfl (hz_mne hO (by decide)) (by decide) (by omega) (c_load (t := nI 537919487) (hz_mne hO (by decide)) hz (va_up_self _ _ _) (by decide) (by decide)) rfl (by decide) ⟨Nat.le_refl _, Nat.le_refl _⟩ (Nat.le_of_ble_eq_true rfl) rfl (fun r9 z9 M9 hp9 => ?_)
    obtain ⟨rfl, rfl, f3, hf3, rfl⟩ := hp9
    refine hz_mem (pc := 126) (M2 := (va_up M 21 (.inl (0, 8, .inl (f3))))) (bx_uu _ _ _ _) ?_
    exact hz_vret (pc := 126) (hz_dec kX9_scale 75 rfl) rfl ⟨rfl, rfl, f3, by rw [← hN, Nat.min_eq_right (sc_top.mpr hl)]; exact hf3, rfl⟩
theorem tb_0 {N q : Nat} (h : N < 256 ^ (q + 1)) : N / 256 ^ q % 256 = N / 256 ^ q := Nat.mod_eq_of_lt (by rw [Nat.div_lt_iff_lt_mul (Nat.pow_pos (by decide)), ← Nat.pow_succ']; exact h)
theorem tb_3 {N q : Nat} (h : N < 256 ^ (q + 3)) : N / 256 ^ (q + 2) % 256 * 65536 + (N / 256 ^ (q + 1) % 256 * 256 + N / 256 ^ q % 256) = N / 256 ^ q := by
  have h1 : N / 256 ^ q < 16777216 := by
    rw [Nat.div_lt_iff_lt_mul (Nat.pow_pos (by decide)), show (16777216 : Nat) = 256 ^ 3 by decide, ← Nat.pow_add, Nat.add_comm]; exact h
  have e1 : N / 256 ^ (q + 1) = N / 256 ^ q / 256 := by rw [Nat.pow_succ, Nat.div_div_eq_div_mul]
  have e2 : N / 256 ^ (q + 2) = N / 256 ^ q / 256 / 256 := by rw [Nat.pow_add, Nat.div_div_eq_div_mul, Nat.div_div_eq_div_mul]
  rw [e1, e2]
  generalize N / 256 ^ q = x at *
  omega
theorem tb_ge {N q : Nat} (h : 256 ^ q ≤ N) : 1 ≤ N / 256 ^ q := (Nat.le_div_iff_mul_le (Nat.pow_pos (by decide))).mpr (by omega)
set_option maxHeartbeats 4000000 in
set_option maxRecDepth 100000 in
theorem c_toBits_l {κ : hz_C} {z : Nat} {M : hz_M} {wb : Int32} (hO : M 20 = .inr (9, [.ref 21, .ref 22, .ref 23, .ref 24, .int wb])) (hz : 25 ≤ z) {f0 : Nat → Int32} (h21 : M 21 = .inl (0, 8, .inl f0)) {P : hz_P} (K : ∀ i, i ≤ 29 → bg f0 0 8 < 256 ^ (32 - i) → (i = 29 ∨ 1 ≤ bg f0 0 8 / 256 ^ (31 - i)) → hz_W κ xX9_toBits 1 0 0 P 0 0 22 [(1, .int (nI i)), (0, .ref 20)] [] z M) : ∀ k i, k = 29 - i → i ≤ 29 → bg f0 0 8 < 256 ^ (32 - i) → hz_W κ xX9_toBits 1 0 0 P 0 0 2 [(1, .int (nI i)), (0, .ref 20)] [] z M := by
  intro k
  induction k using Nat.strongRecOn with
  | ind k ih =>
  intro i hk hi hv
  refine hz_iloadn (pc := 2) 0 (hz_dec kX9_toBits 2 rfl) rfl ?_
  refine hz_bipush (pc := 3) (v := nI 29) (hz_dec kX9_toBits 3 rfl) (by decide) ?_
  refine hz_n_ge (pc := 5) (tgt := 22) (hz_dec kX9_toBits 4 rfl) (by decide) (by omega) (by omega) (fun h1 => ?_) (fun h1 => ?_)
  · skip
    exact K i hi hv (Or.inl (by omega))
  · skip
    refine hz_aloadn (pc := 8) 1 (hz_dec kX9_toBits 5 rfl) rfl ?_
    refine hz_iloadn (pc := 9) 0 (hz_dec kX9_toBits 6 rfl) rfl ?_
    refine hz_xV (pc := 10) (a := 20) (As := [.int (nI i)]) (st := []) (hz_dec kX9_toBits 7 rfl) co_X9_53 im_X9_byteOf se_X9_byteOf rfl hO (by decide) (by omega) (c_byteOf hO hz h21 (by omega)) rfl (by decide) ⟨Nat.le_refl _, Nat.le_refl _⟩ (Nat.le_of_ble_eq_true rfl) rfl ?_
    have hm := Nat.mod_lt (bg f0 0 8 / 256 ^ (31 - i)) (show 0 < 256 by decide)
    refine hz_z_ne (pc := 13) (tgt := 22) (hz_dec kX9_toBits 8 rfl) (by decide) (by omega) (fun h2 => ?_) (fun h2 => ?_)
    · skip
      exact K i (by omega) hv (Or.inr (Nat.le_trans h2 (Nat.mod_le _ _)))
    · skip
      refine hz_incN (pc := 16) (i := 1) (lo2 := [(1, .int (nI (i + 1))), (0, .ref 20)]) 0 (hz_dec kX9_toBits 9 rfl) rfl (by decide) rfl ?_
      refine hz_goto (pc := 19) (tgt := 2) (hz_dec kX9_toBits 10 rfl) (by decide) ?_
      refine hz_pick (pc := 2) [0, 1] rfl ?_
      refine ih (29 - (i + 1)) (by omega) (i + 1) rfl (by omega) ?_
      rw [tb_0 (by rw [show 31 - i + 1 = 32 - i by omega]; exact hv)] at h2
      rw [show 32 - (i + 1) = 31 - i by omega]
      exact (Nat.div_eq_zero_iff_lt (Nat.pow_pos (by decide))).mp h2
set_option maxHeartbeats 4000000 in
set_option maxRecDepth 100000 in
theorem c_toBits {κ : hz_C} {z : Nat} {M : hz_M} {wb : Int32} (hO : M 20 = .inr (9, [.ref 21, .ref 22, .ref 23, .ref 24, .int wb])) (hz : 25 ≤ z) {f0 : Nat → Int32} (h21 : M 21 = .inl (0, 8, .inl f0)) : hz_Mt κ xX9_toBits 1 0 0 [.ref 20] z M (hz_ex (some (.int (tgBits (bg f0 0 8)))) z M) := by
  refine hz_ent (lo := [(0, .ref 20)]) (by decide) (Nat.le_of_ble_eq_true rfl) rfl ?_
  refine hz_iconst (pc := 0) (v := nI 0) (hz_dec kX9_toBits 0 rfl) (by decide) ?_
  refine hz_istoren (pc := 1) (i := 1) (lo2 := [(1, .int (nI 0)), (0, .ref 20)]) (hz_dec kX9_toBits 1 rfl) rfl (by decide) rfl ?_
  refine hz_pick (pc := 2) [0, 1] rfl ?_
  refine c_toBits_l hO hz h21 (fun i hi hN hb => ?_) 29 0 rfl (by omega) (by have := bg_lt f0 0 8; rw [show (256 : Nat) ^ (32 - 0) = 4294967296 ^ 8 by decide]; exact this)
  have hm0 := Nat.mod_lt (bg f0 0 8 / 256 ^ (31 - i)) (show 0 < 256 by decide)
  have hm1 := Nat.mod_lt (bg f0 0 8 / 256 ^ (31 - (i + 1))) (show 0 < 256 by decide)
  have hm2 := Nat.mod_lt (bg f0 0 8 / 256 ^ (31 - (i + 2))) (show 0 < 256 by decide)
  have h3 := tb_3 (N := bg f0 0 8) (q := 29 - i) (by rw [show 29 - i + 3 = 32 - i by omega]; exact hN)
  rw [show 29 - i + 2 = 31 - i by omega, show 29 - i + 1 = 31 - (i + 1) by omega] at h3
  refine hz_bipush (pc := 22) (v := nI 32) (hz_dec kX9_toBits 11 rfl) (by decide) ?_
  refine hz_iloadn (pc := 24) 0 (hz_dec kX9_toBits 12 rfl) rfl ?_
  refine hz_subN (pc := 25) (hz_dec kX9_toBits 13 rfl) (by omega) ?_
  refine hz_istoren (pc := 26) (i := 2) (lo2 := [(2, .int (nI (32 - i))), (1, .int (nI i)), (0, .ref 20)]) (hz_dec kX9_toBits 14 rfl) rfl (by decide) rfl ?_
  refine hz_aloadn (pc := 27) 2 (hz_dec kX9_toBits 15 rfl) rfl ?_
  refine hz_iloadn (pc := 28) 1 (hz_dec kX9_toBits 16 rfl) rfl ?_
  refine hz_xV (pc := 29) (a := 20) (As := [.int (nI i)]) (st := []) (hz_dec kX9_toBits 17 rfl) co_X9_53 im_X9_byteOf se_X9_byteOf rfl hO (by decide) (by omega) (c_byteOf hO hz h21 (i := i) (by omega)) rfl (by decide) ⟨Nat.le_refl _, Nat.le_refl _⟩ (Nat.le_of_ble_eq_true rfl) rfl ?_
  refine hz_bipush (pc := 32) (v := nI 16) (hz_dec kX9_toBits 18 rfl) (by decide) ?_
  refine hz_ishl (pc := 34) (hz_dec kX9_toBits 19 rfl) ?_
  refine hz_eqi (pc := 35) (shl_nI _ (by decide)) ?_
  refine hz_aloadn (pc := 35) 2 (hz_dec kX9_toBits 20 rfl) rfl ?_
  refine hz_iloadn (pc := 36) 1 (hz_dec kX9_toBits 21 rfl) rfl ?_
  refine hz_iconst (pc := 37) (v := nI 1) (hz_dec kX9_toBits 22 rfl) (by decide) ?_
  refine hz_addN (pc := 38) (hz_dec kX9_toBits 23 rfl) ?_
  refine hz_xV (pc := 39) (a := 20) (As := [.int (nI (i + 1))]) (st := [.int (nI (bg f0 0 8 / 256 ^ (31 - i) % 256 * 2 ^ 16))]) (hz_dec kX9_toBits 24 rfl) co_X9_53 im_X9_byteOf se_X9_byteOf rfl hO (by decide) (by omega) (c_byteOf hO hz h21 (i := i + 1) (by omega)) rfl (by decide) ⟨Nat.le_refl _, Nat.le_refl _⟩ (Nat.le_of_ble_eq_true rfl) rfl ?_
  refine hz_bipush (pc := 42) (v := nI 8) (hz_dec kX9_toBits 25 rfl) (by decide) ?_
  refine hz_ishl (pc := 44) (hz_dec kX9_toBits 26 rfl) ?_
  refine hz_eqi (pc := 45) (shl_nI _ (by decide)) ?_
  refine hz_ior (pc := 45) (hz_dec kX9_toBits 27 rfl) ?_
  refine hz_eqi (pc := 46) (or_nI (k := 16) rfl (by omega)) ?_
  refine hz_aloadn (pc := 46) 2 (hz_dec kX9_toBits 28 rfl) rfl ?_
  refine hz_iloadn (pc := 47) 1 (hz_dec kX9_toBits 29 rfl) rfl ?_
  refine hz_iconst (pc := 48) (v := nI 2) (hz_dec kX9_toBits 30 rfl) (by decide) ?_
  refine hz_addN (pc := 49) (hz_dec kX9_toBits 31 rfl) ?_
  refine hz_xV (pc := 50) (a := 20) (As := [.int (nI (i + 2))]) (st := [.int (nI (bg f0 0 8 / 256 ^ (31 - i) % 256 * 2 ^ 16 + bg f0 0 8 / 256 ^ (31 - (i + 1)) % 256 * 2 ^ 8))]) (hz_dec kX9_toBits 32 rfl) co_X9_53 im_X9_byteOf se_X9_byteOf rfl hO (by decide) (by omega) (c_byteOf hO hz h21 (i := i + 2) (by omega)) rfl (by decide) ⟨Nat.le_refl _, Nat.le_refl _⟩ (Nat.le_of_ble_eq_true rfl) rfl ?_
  refine hz_ior (pc := 53) (hz_dec kX9_toBits 33 rfl) ?_
  refine hz_eqi (pc := 54) (w := nI (bg f0 0 8 / 256 ^ (29 - i))) ?_ ?_
  · rw [show bg f0 0 8 / 256 ^ (31 - i) % 256 * 2 ^ 16 + bg f0 0 8 / 256 ^ (31 - (i + 1)) % 256 * 2 ^ 8 = (bg f0 0 8 / 256 ^ (31 - i) % 256 * 256 + bg f0 0 8 / 256 ^ (31 - (i + 1)) % 256) * 256 by omega, or_nI (k := 8) rfl hm2, ← h3, show 31 - (i + 2) = 29 - i by omega]
    congr 1
    omega
  have hml : bg f0 0 8 / 256 ^ (29 - i) < 16777216 := by rw [← h3, show 29 - i = 31 - (i + 2) by omega]; omega
  refine hz_istoren (pc := 54) (i := 3) (lo2 := [(3, .int (nI (bg f0 0 8 / 256 ^ (29 - i)))), (2, .int (nI (32 - i))), (1, .int (nI i)), (0, .ref 20)]) (hz_dec kX9_toBits 34 rfl) rfl (by decide) rfl ?_
  refine hz_iloadn (pc := 55) 0 (hz_dec kX9_toBits 35 rfl) rfl ?_
  refine hz_ldc (pc := 56) (v := nI 8388607) (hz_dec kX9_toBits 36 rfl) ks_X9_27 ?_
  refine hz_n_gt (pc := 58) (tgt := 70) (hz_dec kX9_toBits 37 rfl) (by decide) (by omega) (by omega) (fun h7 => ?_) (fun h7 => ?_)
  · skip
    refine hz_iloadn (pc := 70) 1 (hz_dec kX9_toBits 44 rfl) rfl ?_
    refine hz_iconst (pc := 71) (v := nI 1) (hz_dec kX9_toBits 45 rfl) (by decide) ?_
    refine hz_addN (pc := 72) (hz_dec kX9_toBits 46 rfl) ?_
    refine hz_bipush (pc := 73) (v := nI 24) (hz_dec kX9_toBits 47 rfl) (by decide) ?_
    refine hz_ishl (pc := 75) (hz_dec kX9_toBits 48 rfl) ?_
    refine hz_eqi (pc := 76) (shl_nI _ (by decide)) ?_
    refine hz_iloadn (pc := 76) 0 (hz_dec kX9_toBits 49 rfl) rfl ?_
    refine hz_bipush (pc := 77) (v := nI 8) (hz_dec kX9_toBits 50 rfl) (by decide) ?_
    refine hz_iushr (pc := 79) (hz_dec kX9_toBits 51 rfl) ?_
    refine hz_eqi (pc := 80) (ushr_nI _ (by decide)) ?_
    rw [un_nI (Nat.lt_trans hml (by decide))]
    refine hz_ior (pc := 80) (hz_dec kX9_toBits 52 rfl) ?_
    refine hz_eqi (pc := 81) (or_nI (k := 24) rfl (by omega)) ?_
    have e8 : bg f0 0 8 / 256 ^ (29 - i) / 2 ^ 8 = bg f0 0 8 / 256 ^ (32 - i + 1 - 3) := by rw [Nat.div_div_eq_div_mul, show (2 : Nat) ^ 8 = 256 from rfl, show 32 - i + 1 - 3 = (29 - i) + 1 by omega, Nat.pow_succ]
    rw [e8]
    exact hz_iret (pc := 81) (hz_dec kX9_toBits 53 rfl) rfl ⟨by rw [tgBits_e (e := 32 - i + 1) (by omega) (by omega) (by rw [← e8]; omega) (Or.inr (by rw [show 32 - i + 1 - 4 = 29 - i by omega]; exact h7))], rfl, rfl⟩
  · skip
    refine hz_iloadn (pc := 61) 1 (hz_dec kX9_toBits 38 rfl) rfl ?_
    refine hz_bipush (pc := 62) (v := nI 24) (hz_dec kX9_toBits 39 rfl) (by decide) ?_
    refine hz_ishl (pc := 64) (hz_dec kX9_toBits 40 rfl) ?_
    refine hz_eqi (pc := 65) (shl_nI _ (by decide)) ?_
    refine hz_iloadn (pc := 65) 0 (hz_dec kX9_toBits 41 rfl) rfl ?_
    refine hz_ior (pc := 66) (hz_dec kX9_toBits 42 rfl) ?_
    refine hz_eqi (pc := 67) (or_nI (k := 24) rfl (by omega)) ?_
    refine hz_goto (pc := 67) (tgt := 81) (hz_dec kX9_toBits 43 rfl) (by decide) ?_
    have hlast : 32 - i = 3 ∨ 8388607 < bg f0 0 8 / 256 ^ (32 - i - 4) := by
      rcases hb with q | q
      · left; omega
      · rcases (show i = 29 ∨ i < 29 by omega) with r | r
        · left; omega
        · right
          have e9 : bg f0 0 8 / 256 ^ (31 - i) = bg f0 0 8 / 256 ^ (32 - i - 4) / 16777216 := by rw [Nat.div_div_eq_div_mul, show (16777216 : Nat) = 256 ^ 3 by decide, ← Nat.pow_add, show 32 - i - 4 + 3 = 31 - i by omega]
          omega
    exact hz_iret (pc := 81) (hz_dec kX9_toBits 53 rfl) rfl ⟨by rw [tgBits_e (e := 32 - i) (by omega) (by omega) (by rw [show 32 - i - 3 = 29 - i by omega]; exact h7) hlast, show 32 - i - 3 = 29 - i by omega], rfl, rfl⟩
