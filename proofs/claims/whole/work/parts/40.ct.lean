/-! the class: filling, a target's bytes -/
set_option maxHeartbeats 4000000 in
set_option maxRecDepth 100000 in
theorem c_fillI_l {κ : hz_C} {z : Nat} {M : hz_M} {b n : Nat} {f0 : Nat → Int32} (hM : M b = .inl (0, n, .inl f0)) (ha : 8 ≤ b) (hz : b < z) (hn : n < 2 ^ 30) {v : Int32} {P : hz_P} (K : ∀ f : Nat → Int32, (∀ j, j < n → f j = v) → P none z (va_up M b (.inl (0, n, .inl f)))) : ∀ k i f, k = n - i → i ≤ n → (∀ j, j < i → f j = v) → hz_W κ xJ7_fill_53178 0 0 0 P 0 0 5 [(2, .int (nI i)), (0, .ref b), (1, .int v), (3, .int (nI n))] [] z (va_up M b (.inl (0, n, .inl f))) := by
  intro k
  induction k using Nat.strongRecOn with
  | ind k ih =>
  intro i f hk hi hs
  refine hz_iloadn (pc := 5) 0 (hz_dec kJ7_fill_53178 5 rfl) rfl ?_
  refine hz_iloadn (pc := 6) 3 (hz_dec kJ7_fill_53178 6 rfl) rfl ?_
  refine hz_n_ge (pc := 7) (tgt := 20) (hz_dec kJ7_fill_53178 7 rfl) (by decide) (by omega) (by omega) (fun h1 => ?_) (fun h1 => ?_)
  · skip
    have e : i = n := by omega
    subst e
    exact hz_vret (pc := 20) (hz_dec kJ7_fill_53178 14 rfl) rfl (K f hs)
  · skip
    refine hz_aloadn (pc := 10) 1 (hz_dec kJ7_fill_53178 8 rfl) rfl ?_
    refine hz_iloadn (pc := 11) 0 (hz_dec kJ7_fill_53178 9 rfl) rfl ?_
    refine hz_iloadn (pc := 12) 2 (hz_dec kJ7_fill_53178 10 rfl) rfl ?_
    refine hz_iast (pc := 13) (j := i) (hz_dec kJ7_fill_53178 11 rfl) (va_up_self _ _ _) ha hz rfl (by omega) (by omega) ?_
    refine hz_mem (pc := 14) (M2 := (va_up M b (.inl (0, n, .inl (upd f i ((v))))))) (bx_uu _ _ _ _) ?_
    refine hz_incN (pc := 14) (i := 2) (lo2 := [(2, .int (nI (i + 1))), (0, .ref b), (1, .int v), (3, .int (nI n))]) 0 (hz_dec kJ7_fill_53178 12 rfl) rfl (by decide) rfl ?_
    refine hz_goto (pc := 17) (tgt := 5) (hz_dec kJ7_fill_53178 13 rfl) (by decide) ?_
    refine hz_pick (pc := 5) [0, 1, 2, 3] rfl ?_
    refine ih (n - (i + 1)) (by omega) (i + 1) _ rfl (by omega) (fun j hj => ?_)
    simp only [upd]
    split
    · rfl
    · exact hs j (by omega)
def fl_P (M : hz_M) (z b n t : Nat) (v : Int32) : hz_P := fun r z2 M2 => none = r ∧ z = z2 ∧ ∃ f : Nat → Int32, (∀ j, j < n → f j = v) ∧ va_up M b (.inl (t, n, .inl f)) = M2
set_option maxHeartbeats 4000000 in
set_option maxRecDepth 100000 in
theorem c_fillI {κ : hz_C} {z : Nat} {M : hz_M} {b n : Nat} {f0 : Nat → Int32} (hM : M b = .inl (0, n, .inl f0)) (ha : 8 ≤ b) (hz : b < z) (hn : n < 2 ^ 30) {v : Int32} : hz_Mt κ xJ7_fill_53178 0 0 0 [.ref b, .int v] z M (fl_P M z b n 0 v) := by
  refine hz_ent (lo := [(0, .ref b), (1, .int v)]) (by decide) (Nat.le_of_ble_eq_true rfl) rfl ?_
  refine hz_iconst (pc := 0) (v := nI 0) (hz_dec kJ7_fill_53178 0 rfl) (by decide) ?_
  refine hz_istoren (pc := 1) (i := 2) (lo2 := [(2, .int (nI 0)), (0, .ref b), (1, .int v)]) (hz_dec kJ7_fill_53178 1 rfl) rfl (by decide) rfl ?_
  refine hz_aloadn (pc := 2) 1 (hz_dec kJ7_fill_53178 2 rfl) rfl ?_
  refine hz_alen (pc := 3) (hz_dec kJ7_fill_53178 3 rfl) hM (by decide) ha hz ?_
  refine hz_istoren (pc := 4) (i := 3) (lo2 := [(3, .int (nI n)), (2, .int (nI 0)), (0, .ref b), (1, .int v)]) (hz_dec kJ7_fill_53178 4 rfl) rfl (by decide) rfl ?_
  refine hz_pick (pc := 5) [1, 2, 3, 0] rfl ?_
  refine hz_mem (hz_upid hM).symm ?_
  exact c_fillI_l hM ha hz hn (fun f h => ⟨rfl, rfl, f, h, rfl⟩) n 0 f0 rfl (by omega) (fun j hj => absurd hj (by omega))
def tg_P (M : hz_M) (z v : Nat) : hz_P := fun r z2 M2 => none = r ∧ z = z2 ∧ ∃ f : Nat → Int32, bg f 0 8 = v ∧ va_up M 21 (.inl (0, 8, .inl f)) = M2
set_option maxHeartbeats 4000000 in
set_option maxRecDepth 100000 in
theorem c_putByte {κ : hz_C} {z : Nat} {M : hz_M} {wb : Int32} (hO : M 20 = .inr (9, [.ref 21, .ref 22, .ref 23, .ref 24, .int wb])) (hz : 25 ≤ z) {f0 : Nat → Int32} (h21 : M 21 = .inl (0, 8, .inl f0)) {i v : Nat} (hi : i < 32) (hv : v < 256) (h0 : bg f0 0 8 / 256 ^ (31 - i) % 256 = 0) : hz_Mt κ xX9_putByte 0 0 0 [.ref 20, .int (nI i), .int (nI v)] z M (tg_P M z (bg f0 0 8 + v * 256 ^ (31 - i))) := by
  refine hz_ent (lo := [(0, .ref 20), (1, .int (nI i)), (2, .int (nI v))]) (by decide) (Nat.le_of_ble_eq_true rfl) rfl ?_
  refine hz_iloadn (pc := 0) 1 (hz_dec kX9_putByte 0 rfl) rfl ?_
  refine hz_z_lt (pc := 1) (tgt := 32) (hz_dec kX9_putByte 1 rfl) (by decide) (by omega) ?_
  refine hz_iloadn (pc := 4) 1 (hz_dec kX9_putByte 2 rfl) rfl ?_
  refine hz_bipush (pc := 5) (v := nI 32) (hz_dec kX9_putByte 3 rfl) (by decide) ?_
  refine hz_n_ge (pc := 7) (tgt := 32) (hz_dec kX9_putByte 4 rfl) (by decide) (by omega) (by omega) (fun h2 => ?_) (fun h2 => ?_)
  · skip
    exact absurd h2 (by omega)
  · skip
    refine hz_aloadn (pc := 10) 0 (hz_dec kX9_putByte 5 rfl) rfl ?_
    refine hz_get (pc := 11) (hz_dec kX9_putByte 6 rfl) fo_X9_9 hO (by decide) (by omega) rfl ?_
    refine hz_iloadn (pc := 14) 1 (hz_dec kX9_putByte 7 rfl) rfl ?_
    refine hz_iconst (pc := 15) (v := nI 4) (hz_dec kX9_putByte 8 rfl) (by decide) ?_
    refine hz_divN (pc := 16) (hz_dec kX9_putByte 9 rfl) (by omega) (by decide) (by decide) ?_
    refine hz_dup2 (pc := 17) (hz_dec kX9_putByte 10 rfl) rfl rfl ?_
    refine hz_iald (pc := 18) (j := i / 4) (hz_dec kX9_putByte 11 rfl) h21 (by decide) (by omega) rfl (by omega) (by decide) ?_
    refine hz_iloadn (pc := 19) 2 (hz_dec kX9_putByte 12 rfl) rfl ?_
    refine hz_bipush (pc := 20) (v := nI 24) (hz_dec kX9_putByte 13 rfl) (by decide) ?_
    refine hz_bipush (pc := 22) (v := nI 8) (hz_dec kX9_putByte 14 rfl) (by decide) ?_
    refine hz_iloadn (pc := 24) 1 (hz_dec kX9_putByte 15 rfl) rfl ?_
    refine hz_iconst (pc := 25) (v := nI 4) (hz_dec kX9_putByte 16 rfl) (by decide) ?_
    refine hz_remN (pc := 26) (hz_dec kX9_putByte 17 rfl) (by omega) (by decide) (by decide) ?_
    refine hz_mulN (pc := 27) (hz_dec kX9_putByte 18 rfl) ?_
    refine hz_subN (pc := 28) (hz_dec kX9_putByte 19 rfl) (by omega) ?_
    refine hz_ishl (pc := 29) (hz_dec kX9_putByte 20 rfl) ?_
    refine hz_ior (pc := 30) (hz_dec kX9_putByte 21 rfl) ?_
    refine hz_iast (pc := 31) (j := i / 4) (hz_dec kX9_putByte 22 rfl) h21 (by decide) (by omega) rfl (by omega) (by decide) ?_
    have q := bg_bput (f := f0) (n := 8) (p := 31 - i) (by omega) hv h0
    rw [show 8 - 1 - (31 - i) / 4 = i / 4 by omega, show 8 * ((31 - i) % 4) = 24 - 8 * (i % 4) by omega] at q
    exact hz_vret (pc := 32) (hz_dec kX9_putByte 23 rfl) rfl ⟨rfl, rfl, _, q, rfl⟩
set_option maxHeartbeats 4000000 in
set_option maxRecDepth 100000 in
theorem c_byteOf {κ : hz_C} {z : Nat} {M : hz_M} {wb : Int32} (hO : M 20 = .inr (9, [.ref 21, .ref 22, .ref 23, .ref 24, .int wb])) (hz : 25 ≤ z) {f0 : Nat → Int32} (h21 : M 21 = .inl (0, 8, .inl f0)) {i : Nat} (hi : i < 32) : hz_Mt κ xX9_byteOf 0 0 0 [.ref 20, .int (nI i)] z M (hz_ex (some (.int (nI (bg f0 0 8 / 256 ^ (31 - i) % 256)))) z M) := by
  refine hz_ent (lo := [(0, .ref 20), (1, .int (nI i))]) (by decide) (Nat.le_of_ble_eq_true rfl) rfl ?_
  refine hz_iloadn (pc := 0) 1 (hz_dec kX9_byteOf 0 rfl) rfl ?_
  refine hz_z_lt (pc := 1) (tgt := 10) (hz_dec kX9_byteOf 1 rfl) (by decide) (by omega) ?_
  refine hz_iloadn (pc := 4) 1 (hz_dec kX9_byteOf 2 rfl) rfl ?_
  refine hz_bipush (pc := 5) (v := nI 32) (hz_dec kX9_byteOf 3 rfl) (by decide) ?_
  refine hz_n_lt (pc := 7) (tgt := 14) (hz_dec kX9_byteOf 4 rfl) (by decide) (by omega) (by omega) (fun h2 => ?_) (fun h2 => ?_)
  · skip
    refine hz_aloadn (pc := 14) 0 (hz_dec kX9_byteOf 7 rfl) rfl ?_
    refine hz_get (pc := 15) (hz_dec kX9_byteOf 8 rfl) fo_X9_9 hO (by decide) (by omega) rfl ?_
    refine hz_iloadn (pc := 18) 1 (hz_dec kX9_byteOf 9 rfl) rfl ?_
    refine hz_iconst (pc := 19) (v := nI 4) (hz_dec kX9_byteOf 10 rfl) (by decide) ?_
    refine hz_divN (pc := 20) (hz_dec kX9_byteOf 11 rfl) (by omega) (by decide) (by decide) ?_
    refine hz_iald (pc := 21) (j := i / 4) (hz_dec kX9_byteOf 12 rfl) h21 (by decide) (by omega) rfl (by omega) (by decide) ?_
    refine hz_bipush (pc := 22) (v := nI 24) (hz_dec kX9_byteOf 13 rfl) (by decide) ?_
    refine hz_bipush (pc := 24) (v := nI 8) (hz_dec kX9_byteOf 14 rfl) (by decide) ?_
    refine hz_iloadn (pc := 26) 1 (hz_dec kX9_byteOf 15 rfl) rfl ?_
    refine hz_iconst (pc := 27) (v := nI 4) (hz_dec kX9_byteOf 16 rfl) (by decide) ?_
    refine hz_remN (pc := 28) (hz_dec kX9_byteOf 17 rfl) (by omega) (by decide) (by decide) ?_
    refine hz_mulN (pc := 29) (hz_dec kX9_byteOf 18 rfl) ?_
    refine hz_subN (pc := 30) (hz_dec kX9_byteOf 19 rfl) (by omega) ?_
    refine hz_iushr (pc := 31) (hz_dec kX9_byteOf 20 rfl) ?_
    refine hz_eqi (pc := 32) (ushr_nI _ (by omega)) ?_
    refine hz_sipush (pc := 32) (v := nI 255) (hz_dec kX9_byteOf 21 rfl) (by decide) ?_
    refine hz_andB (pc := 35) (hz_dec kX9_byteOf 22 rfl) ?_
    have hu := un_lt (f0 (i / 4))
    have q := bg_byte f0 0 8 (31 - i) (by omega)
    rw [show 8 - 1 - (31 - i) / 4 = i / 4 by omega, Nat.zero_add, show (256 : Nat) ^ ((31 - i) % 4) = 2 ^ (24 - 8 * (i % 4)) by rw [show 24 - 8 * (i % 4) = 8 * ((31 - i) % 4) by omega, Nat.pow_mul]] at q
    exact hz_iret (pc := 36) (hz_dec kX9_byteOf 23 rfl) rfl ⟨by rw [q, bb_un, un_nI (Nat.lt_of_le_of_lt (Nat.div_le_self _ _) hu)], rfl, rfl⟩
  · skip
    exact absurd h2 (by omega)
theorem ld_st {m q k : Nat} : m / 256 ^ (k + 1) * 256 ^ (k + 1) * 256 ^ q + m / 256 ^ k % 256 * 256 ^ (q + k) = m / 256 ^ k * 256 ^ k * 256 ^ q := by
  rw [Nat.pow_add 256 q k, Nat.mul_comm (256 ^ q) (256 ^ k), ← Nat.mul_assoc, ← Nat.add_mul, Nat.pow_succ, ← Nat.div_div_eq_div_mul]
  congr 1
  rw [Nat.mul_comm (256 ^ k) 256, ← Nat.mul_assoc, ← Nat.add_mul]
  congr 1
  omega
theorem ld_z {X q k : Nat} : X * 256 ^ (k + 1) * 256 ^ q / 256 ^ (q + k) % 256 = 0 := by
  have e : X * 256 ^ (k + 1) * 256 ^ q = (X * 256) * 256 ^ (q + k) := by
    rw [Nat.pow_add 256 q k, Nat.pow_succ, Nat.mul_comm (256 ^ q) (256 ^ k), Nat.mul_comm (256 ^ k) 256, ← Nat.mul_assoc, ← Nat.mul_assoc]
  rw [e, Nat.mul_div_cancel _ (Nat.pow_pos (by decide))]
  omega
theorem ld_b (t : Int32) {i : Nat} (hi : i < 3) : bb (nI (un t / 2 ^ (16 - 8 * i))) = tgM t / 256 ^ (2 - i) % 256 := by
  have hu := un_lt t
  rw [bb_un, un_nI (Nat.lt_of_le_of_lt (Nat.div_le_self _ _) hu)]
  unfold tgM
  rcases (show i = 0 ∨ i = 1 ∨ i = 2 by omega) with rfl | rfl | rfl
  · show un t / 65536 % 256 = un t % 16777216 / 65536 % 256
    omega
  · show un t / 256 % 256 = un t % 16777216 / 256 % 256
    omega
  · show un t / 1 % 256 = un t % 16777216 / 1 % 256
    omega
set_option maxHeartbeats 4000000 in
set_option maxRecDepth 100000 in
theorem c_load_l {κ : hz_C} {z : Nat} {M : hz_M} {wb : Int32} (hO : M 20 = .inr (9, [.ref 21, .ref 22, .ref 23, .ref 24, .int wb])) (hz : 25 ≤ z) {f0 : Nat → Int32} (h21 : M 21 = .inl (0, 8, .inl f0)) {t : Int32} (he : 3 ≤ tgE t) (he2 : tgE t ≤ 32) {P : hz_P} (K : ∀ f : Nat → Int32, bg f 0 8 = tgT t → P none z (va_up M 21 (.inl (0, 8, .inl f)))) : ∀ k i f, k = 3 - i → i ≤ 3 → bg f 0 8 = tgM t / 256 ^ (3 - i) * 256 ^ (3 - i) * 256 ^ (tgE t - 3) → hz_W κ xX9_load 1 0 0 P 0 0 18 [(3, .int (nI i)), (0, .ref 20), (1, .int t), (2, .int (nI (32 - tgE t)))] [] z (va_up M 21 (.inl (0, 8, .inl f))) := by
  intro k
  induction k using Nat.strongRecOn with
  | ind k ih =>
  intro i f hk hi hv
  refine hz_iloadn (pc := 18) 0 (hz_dec kX9_load 12 rfl) rfl ?_
  refine hz_iconst (pc := 19) (v := nI 3) (hz_dec kX9_load 13 rfl) (by decide) ?_
  refine hz_n_ge (pc := 20) (tgt := 49) (hz_dec kX9_load 14 rfl) (by decide) (by omega) (by omega) (fun h1 => ?_) (fun h1 => ?_)
  · skip
    have e3 : i = 3 := by omega
    subst e3
    exact hz_vret (pc := 49) (hz_dec kX9_load 31 rfl) rfl (K f (by rw [hv]; unfold tgT; simp))
  · skip
    refine hz_aloadn (pc := 23) 1 (hz_dec kX9_load 15 rfl) rfl ?_
    refine hz_iloadn (pc := 24) 3 (hz_dec kX9_load 16 rfl) rfl ?_
    refine hz_iloadn (pc := 25) 0 (hz_dec kX9_load 17 rfl) rfl ?_
    refine hz_addN (pc := 26) (hz_dec kX9_load 18 rfl) ?_
    refine hz_iloadn (pc := 27) 2 (hz_dec kX9_load 19 rfl) rfl ?_
    refine hz_bipush (pc := 28) (v := nI 16) (hz_dec kX9_load 20 rfl) (by decide) ?_
    refine hz_bipush (pc := 30) (v := nI 8) (hz_dec kX9_load 21 rfl) (by decide) ?_
    refine hz_iloadn (pc := 32) 0 (hz_dec kX9_load 22 rfl) rfl ?_
    refine hz_mulN (pc := 33) (hz_dec kX9_load 23 rfl) ?_
    refine hz_subN (pc := 34) (hz_dec kX9_load 24 rfl) (by omega) ?_
    refine hz_iushr (pc := 35) (hz_dec kX9_load 25 rfl) ?_
    refine hz_eqi (pc := 36) (ushr_nI _ (by omega)) ?_
    refine hz_sipush (pc := 36) (v := nI 255) (hz_dec kX9_load 26 rfl) (by decide) ?_
    refine hz_andB (pc := 39) (hz_dec kX9_load 27 rfl) ?_
    refine hz_eqi (pc := 40) (congrArg nI (ld_b t h1)) ?_
    rw [show 3 - i = (2 - i) + 1 by omega] at hv
    refine hz_callV (pc := 40) (a := 20) (As := [.int (nI ((32 - tgE t) + i)), .int (nI (tgM t / 256 ^ (2 - i) % 256))]) (st := []) (hz_dec kX9_load 28 rfl) co_X9_36 im_X9_putByte se_X9_putByte rfl (hz_mne hO (by decide)) (by decide) (by omega) (c_putByte (i := 32 - tgE t + i) (v := tgM t / 256 ^ (2 - i) % 256) (hz_mne hO (by decide)) (by omega) (va_up_self _ _ _) (by omega) (Nat.mod_lt _ (by decide)) (by rw [hv, show 31 - (32 - tgE t + i) = tgE t - 3 + (2 - i) by omega]; exact ld_z)) rfl (by decide) ⟨Nat.le_refl _, Nat.le_refl _⟩ (Nat.le_of_ble_eq_true rfl) rfl (fun r9 z9 M9 hp9 => ?_)
    obtain ⟨rfl, rfl, f2, hf2, rfl⟩ := hp9
    refine hz_mem (pc := 43) (M2 := (va_up M 21 (.inl (0, 8, .inl (f2))))) (bx_uu _ _ _ _) ?_
    refine hz_incN (pc := 43) (i := 3) (lo2 := [(3, .int (nI (i + 1))), (0, .ref 20), (1, .int t), (2, .int (nI (32 - tgE t)))]) 0 (hz_dec kX9_load 29 rfl) rfl (by decide) rfl ?_
    refine hz_goto (pc := 46) (tgt := 18) (hz_dec kX9_load 30 rfl) (by decide) ?_
    refine hz_pick (pc := 18) [0, 1, 2, 3] rfl ?_
    refine ih (3 - (i + 1)) (by omega) (i + 1) f2 rfl (by omega) ?_
    rw [hf2, hv, show 31 - (32 - tgE t + i) = tgE t - 3 + (2 - i) by omega, ld_st, show 3 - (i + 1) = 2 - i by omega]
set_option maxHeartbeats 4000000 in
set_option maxRecDepth 100000 in
theorem c_load {κ : hz_C} {z : Nat} {M : hz_M} {wb : Int32} (hO : M 20 = .inr (9, [.ref 21, .ref 22, .ref 23, .ref 24, .int wb])) (hz : 25 ≤ z) {f0 : Nat → Int32} (h21 : M 21 = .inl (0, 8, .inl f0)) {t : Int32} (he : 3 ≤ tgE t) (he2 : tgE t ≤ 32) : hz_Mt κ xX9_load 1 0 0 [.ref 20, .int t] z M (tg_P M z (tgT t)) := by
  refine hz_ent (lo := [(0, .ref 20), (1, .int t)]) (by decide) (Nat.le_of_ble_eq_true rfl) rfl ?_
  refine hz_aloadn (pc := 0) 0 (hz_dec kX9_load 0 rfl) rfl ?_
  refine hz_get (pc := 1) (hz_dec kX9_load 1 rfl) fo_X9_9 hO (by decide) (by omega) rfl ?_
  refine hz_iconst (pc := 4) (v := nI 0) (hz_dec kX9_load 2 rfl) (by decide) ?_
  refine hz_callS (pc := 5) (As := [.ref 21, .int (nI 0)]) (st := []) (hz_dec kX9_load 3 rfl) co_X9_30 sc_J7_fill_53178 (c_fillI (v := nI 0) h21 (by decide) (by omega) (by decide)) rfl (by decide) ⟨Nat.le_refl _, Nat.le_refl _⟩ (Nat.le_of_ble_eq_true rfl) rfl (fun r9 z9 M9 hp9 => ?_)
  obtain ⟨rfl, rfl, f1, hf1, rfl⟩ := hp9
  refine hz_bipush (pc := 8) (v := nI 32) (hz_dec kX9_load 4 rfl) (by decide) ?_
  refine hz_iloadn (pc := 10) 1 (hz_dec kX9_load 5 rfl) rfl ?_
  refine hz_bipush (pc := 11) (v := nI 24) (hz_dec kX9_load 6 rfl) (by decide) ?_
  refine hz_iushr (pc := 13) (hz_dec kX9_load 7 rfl) ?_
  refine hz_eqi (pc := 14) (tg_e t) ?_
  refine hz_subN (pc := 14) (hz_dec kX9_load 8 rfl) (by omega) ?_
  refine hz_istoren (pc := 15) (i := 2) (lo2 := [(2, .int (nI (32 - (tgE t)))), (0, .ref 20), (1, .int t)]) (hz_dec kX9_load 9 rfl) rfl (by decide) rfl ?_
  refine hz_iconst (pc := 16) (v := nI 0) (hz_dec kX9_load 10 rfl) (by decide) ?_
  refine hz_istoren (pc := 17) (i := 3) (lo2 := [(3, .int (nI 0)), (2, .int (nI (32 - (tgE t)))), (0, .ref 20), (1, .int t)]) (hz_dec kX9_load 11 rfl) rfl (by decide) rfl ?_
  refine hz_pick (pc := 18) [0, 2, 3, 1] rfl ?_
  refine c_load_l hO hz h21 he he2 (fun f h => ⟨rfl, rfl, f, h, rfl⟩) 3 0 f1 rfl (by omega) ?_
  rw [bg_zero 8 (fun i hi => by rw [Nat.zero_add]; exact hf1 i hi), show 3 - 0 = 3 from rfl, Nat.div_eq_of_lt (show tgM t < 256 ^ 3 from tgM_lt t)]
  simp
set_option maxHeartbeats 4000000 in
set_option maxRecDepth 100000 in
theorem c_isMet {κ : hz_C} {z : Nat} {M : hz_M} {wb : Int32} (hO : M 20 = .inr (9, [.ref 21, .ref 22, .ref 23, .ref 24, .int wb])) (hz : 25 ≤ z) {f0 : Nat → Int32} (h21 : M 21 = .inl (0, 8, .inl f0)) {b n : Nat} {h : Nat → Int32} (hB : M b = .inl (0, n, .inl h)) (hb8 : 8 ≤ b) (hbz : b < z) (hn : n < 2 ^ 30) (hn8 : 8 ≤ n) : hz_Mt κ xX9_isMetBy 1 0 0 [.ref 20, .ref b] z M (hz_ex (some (.int (hz_b (decide (bg h 0 8 ≤ bg f0 0 8))))) z M) := by
  refine hz_ent (lo := [(0, .ref 20), (1, .ref b)]) (by decide) (Nat.le_of_ble_eq_true rfl) rfl ?_
  refine hz_aloadn (pc := 0) 1 (hz_dec kX9_isMetBy 0 rfl) rfl ?_
  refine hz_iconst (pc := 1) (v := nI 0) (hz_dec kX9_isMetBy 1 rfl) (by decide) ?_
  refine hz_aloadn (pc := 2) 0 (hz_dec kX9_isMetBy 2 rfl) rfl ?_
  refine hz_get (pc := 3) (hz_dec kX9_isMetBy 3 rfl) fo_X9_9 hO (by decide) (by omega) rfl ?_
  refine hz_iconst (pc := 6) (v := nI 0) (hz_dec kX9_isMetBy 4 rfl) (by decide) ?_
  refine hz_xS (pc := 7) (As := [.ref b, .int (nI 0), .ref 21, .int (nI 0)]) (st := []) (hz_dec kX9_isMetBy 5 rfl) co_X9_40 sc_X9_compareWords (c_cmpW hB hb8 hbz hn h21 (by decide) (by omega) (by decide) (by omega) (by omega)) rfl (by decide) ⟨Nat.le_refl _, Nat.le_refl _⟩ (Nat.le_of_ble_eq_true rfl) rfl ?_
  refine hz_if_gt (pc := 10) (tgt := 17) (hz_dec kX9_isMetBy 6 rfl) (by decide) (fun h9 => ?_) (fun h9 => ?_)
  · skip
    refine hz_iconst (pc := 17) (v := nI 0) (hz_dec kX9_isMetBy 9 rfl) (by decide) ?_
    exact hz_zret (pc := 18) (hz_dec kX9_isMetBy 10 rfl) rfl rfl ⟨by rw [show decide (bg h 0 8 ≤ bg f0 0 8) = false from decide_eq_false (fun q => Int32.not_le.mpr h9 (cmpN_le.mpr q))]; rfl, rfl, rfl⟩
  · skip
    refine hz_iconst (pc := 13) (v := nI 1) (hz_dec kX9_isMetBy 7 rfl) (by decide) ?_
    refine hz_goto (pc := 14) (tgt := 18) (hz_dec kX9_isMetBy 8 rfl) (by decide) ?_
    exact hz_zret (pc := 18) (hz_dec kX9_isMetBy 10 rfl) rfl rfl ⟨by rw [show decide (bg h 0 8 ≤ bg f0 0 8) = true from decide_eq_true (cmpN_le.mp (Int32.not_lt.mp h9))]; rfl, rfl, rfl⟩
