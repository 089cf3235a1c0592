/-! bytes of numbers of many words; targets -/
theorem bg_byte (f : Nat → Int32) (a : Nat) : ∀ n p, p < 4 * n → bg f a n / 256 ^ p % 256 = un (f (a + (n - 1 - p / 4))) / 256 ^ (p % 4) % 256 := by
  intro n
  induction n with
  | zero => intro p h; omega
  | succ n ih =>
    intro p h
    show (bg f a n * 4294967296 + un (f (a + n))) / 256 ^ p % 256 = _
    rcases Nat.lt_or_ge p 4 with h4 | h4
    · rw [show n + 1 - 1 - p / 4 = n by omega, show p % 4 = p by omega]
      rcases (show p = 0 ∨ p = 1 ∨ p = 2 ∨ p = 3 by omega) with rfl | rfl | rfl | rfl <;> omega
    · have e : (256 : Nat) ^ p = 4294967296 * 256 ^ (p - 4) := by
        rw [show (4294967296 : Nat) = 256 ^ 4 by decide, ← Nat.pow_add]
        congr 1
        omega
      have hu := un_lt (f (a + n))
      rw [e, ← Nat.div_div_eq_div_mul, show (bg f a n * 4294967296 + un (f (a + n))) / 4294967296 = bg f a n by omega, ih (p - 4) (by omega)]
      rw [show n - 1 - (p - 4) / 4 = n + 1 - 1 - p / 4 by omega, show (p - 4) % 4 = p % 4 by omega]
theorem bg_set {f : Nat → Int32} {a : Nat} {x : Int32} : ∀ n j, j < n → bg (upd f (a + j) x) a n + un (f (a + j)) * 4294967296 ^ (n - 1 - j) = bg f a n + un x * 4294967296 ^ (n - 1 - j) := by
  intro n
  induction n with
  | zero => intro j h; omega
  | succ n ih =>
    intro j h
    show bg (upd f (a + j) x) a n * 4294967296 + un (upd f (a + j) x (a + n)) + _ = bg f a n * 4294967296 + un (f (a + n)) + _
    rcases (show j = n ∨ j < n by omega) with rfl | hj
    · rw [bg_up j (by omega), show j + 1 - 1 - j = 0 by omega]
      have e0 : upd f (a + j) x (a + j) = x := by simp [upd]
      rw [e0]
      omega
    · have e0 : upd f (a + j) x (a + n) = f (a + n) := by simp only [upd]; rw [if_neg (by omega)]
      have hp : (4294967296 : Nat) ^ (n + 1 - 1 - j) = 4294967296 ^ (n - 1 - j) * 4294967296 := by rw [← Nat.pow_succ]; congr 1; omega
      rw [e0, hp, ← Nat.mul_assoc, ← Nat.mul_assoc]
      have := ih j hj
      omega
/-- a byte put into a word where there is none -/
theorem or_b {x : Int32} {v r : Nat} (hr : r < 4) (hv : v < 256) (hx : un x / 256 ^ r % 256 = 0) : un (x ||| (nI v <<< (nI (8 * r) &&& 31))) = un x + v * 256 ^ r := by
  have hu := un_lt x
  have e8 : (2 : Nat) ^ (8 * r) = 256 ^ r := by rw [Nat.pow_mul]
  rw [shl_nI v (by omega), e8]
  have key : ∀ p P : Nat, 2 ^ (8 * r) = p → 2 ^ (8 * (r + 1)) = P → P = 256 * p → un x / p % 256 = 0 → un (x ||| nI (v * p)) = un x + v * p := by
    intro p P hp hP hPp h0
    have p0 : 0 < p := by rw [← hp]; exact Nat.two_pow_pos _
    have hd1 := Nat.div_add_mod (un x) P
    have hml := Nat.mod_lt (un x) (show 0 < P by omega)
    have hlo : un x % P < p := by
      have q1 : un x % P / p = 0 := by
        rw [hPp, Nat.mul_comm 256 p, Nat.mod_mul_right_div_self]
        exact h0
      exact (Nat.div_eq_zero_iff_lt p0).mp q1
    have hvp : v * p + un x % P < P := by
      have : v * p ≤ 255 * p := Nat.mul_le_mul_right p (by omega)
      omega
    have ex : x = nI (un x / P * P) ||| nI (un x % P) := by
      rw [or_nI hP hml, Nat.mul_comm, hd1, nI_un]
    have e1 : x ||| nI (v * p) = nI (un x + v * p) := by
      have e2 : nI (un x % P) ||| nI (v * p) = nI (v * p + un x % P) := by
        rw [Int32.or_comm, or_nI hp hlo]
      have e3 : x ||| nI (v * p) = nI (un x / P * P) ||| (nI (un x % P) ||| nI (v * p)) := by
        rw [← Int32.or_assoc, ← ex]
      rw [e3, e2, or_nI hP hvp]
      congr 1
      rw [Nat.mul_comm P] at hd1
      omega
    rw [e1]
    refine un_nI ?_
    have hP2 : P ≤ 4294967296 := by rw [← hP]; exact Nat.pow_le_pow_right (by decide) (show 8 * (r + 1) ≤ 32 by omega)
    have hdiv : P ∣ 4294967296 := by rw [← hP, show (4294967296 : Nat) = 2 ^ 32 by decide]; exact Nat.pow_dvd_pow 2 (by omega)
    obtain ⟨c, hc⟩ := hdiv
    have hq : un x / P < c := by
      rw [Nat.div_lt_iff_lt_mul (by omega), Nat.mul_comm, ← hc]; exact hu
    have : P * (un x / P + 1) ≤ P * c := Nat.mul_le_mul_left P hq
    rw [Nat.mul_add] at this
    omega
  exact key (256 ^ r) (256 ^ (r + 1)) e8 (by rw [Nat.pow_mul]) (by rw [Nat.pow_succ, Nat.mul_comm]) hx
theorem bg_bput {f : Nat → Int32} {n p v : Nat} (h : p < 4 * n) (hv : v < 256) (h0 : bg f 0 n / 256 ^ p % 256 = 0) :
    bg (upd f (n - 1 - p / 4) (f (n - 1 - p / 4) ||| (nI v <<< (nI (8 * (p % 4)) &&& 31)))) 0 n = bg f 0 n + v * 256 ^ p := by
  rw [bg_byte f 0 n p h, Nat.zero_add] at h0
  have e := or_b (Nat.mod_lt p (by decide)) hv h0
  have s := bg_set (f := f) (a := 0) (x := f (n - 1 - p / 4) ||| (nI v <<< (nI (8 * (p % 4)) &&& 31))) n (n - 1 - p / 4) (by omega)
  rw [Nat.zero_add, e, Nat.add_mul] at s
  have ep : v * 256 ^ (p % 4) * 4294967296 ^ (n - 1 - (n - 1 - p / 4)) = v * 256 ^ p := by
    rw [show (4294967296 : Nat) = 256 ^ 4 by decide, ← Nat.pow_mul, Nat.mul_assoc, ← Nat.pow_add]
    congr 2
    omega
  rw [ep] at s
  omega
/-- exponent, number and target of bits -/
def tgE (b : Int32) : Nat := un b / 16777216
def tgM (b : Int32) : Nat := un b % 16777216
def tgT (b : Int32) : Nat := tgM b * 256 ^ (tgE b - 3)
theorem tgE_lt (b : Int32) : tgE b < 256 := by have := un_lt b; unfold tgE; omega
theorem tgM_lt (b : Int32) : tgM b < 16777216 := Nat.mod_lt _ (by decide)
theorem ushr_nI (x : Int32) {k : Nat} (hk : k < 32) : (x.toUInt32 >>> ((nI k).toUInt32 &&& Int32.toUInt32 31)).toInt32 = nI (un x / 2 ^ k) := by
  apply un_inj
  rw [un_nI (Nat.lt_of_le_of_lt (Nat.div_le_self _ _) (un_lt x))]
  show (x.toUInt32 >>> ((nI k).toUInt32 &&& Int32.toUInt32 31)).toBitVec.toNat = _
  rw [UInt32.toBitVec_shiftRight, BitVec.ushiftRight_eq', s_u k hk, BitVec.toNat_ushiftRight, Nat.shiftRight_eq_div_pow]
  rfl
theorem tg_e (b : Int32) : (b.toUInt32 >>> ((nI 24).toUInt32 &&& Int32.toUInt32 31)).toInt32 = nI (tgE b) := ushr_nI b (by decide)
theorem tg_m (b : Int32) : b &&& nI 16777215 = nI (tgM b) := pk_and b 24 (by decide)
theorem tg_st {m q k : Nat} : m % 256 ^ k * 256 ^ q + m / 2 ^ (8 * k) % 256 * 256 ^ (q + k) = m % 256 ^ (k + 1) * 256 ^ q := by
  rw [Nat.pow_mul, show (2 : Nat) ^ 8 = 256 by decide, Nat.pow_add, Nat.mul_comm (256 ^ q), ← Nat.mul_assoc, ← Nat.add_mul, Nat.pow_succ, Nat.mod_mul, Nat.mul_comm (256 ^ k) (m / 256 ^ k % 256)]
theorem tg_z {m q k : Nat} : m % 256 ^ k * 256 ^ q / 256 ^ (q + k) % 256 = 0 := by
  rw [Nat.pow_add, Nat.mul_comm (m % 256 ^ k), Nat.mul_div_mul_left _ _ (Nat.pow_pos (by decide)), Nat.div_eq_of_lt (Nat.mod_lt _ (Nat.pow_pos (by decide)))]
set_option maxHeartbeats 4000000 in
set_option maxRecDepth 100000 in
theorem c_layT_l {κ : hz_C} {z : Nat} {M : hz_M} {b : Nat} {f0 : Nat → Int32} (hM : M b = .inl (0, 9, .inl f0)) (ha : 8 ≤ b) (hz : b < z) {t : Int32} {e m : Nat} (he : 3 ≤ e) (he2 : e ≤ 36) (hm : m < 16777216) {P : hz_P} (K : ∀ f : Nat → Int32, bg f 0 9 = m * 256 ^ (e - 3) → P none z (va_up M b (.inl (0, 9, .inl f)))) : ∀ k i f, k = 3 - i → i ≤ 3 → bg f 0 9 = m % 256 ^ i * 256 ^ (e - 3) → hz_W κ xX12_layTarget 1 0 0 P 0 0 18 [(4, .int (nI i)), (0, .int t), (1, .ref b), (2, .int (nI e)), (3, .int (nI m))] [] z (va_up M b (.inl (0, 9, .inl f))) := by
  intro k
  induction k using Nat.strongRecOn with
  | ind k ih =>
  intro i f hk hi hv
  refine hz_iload (pc := 18) 0 (hz_dec kX12_layTarget 12 rfl) rfl ?_
  refine hz_iconst (pc := 20) (v := nI 3) (hz_dec kX12_layTarget 13 rfl) (by decide) ?_
  refine hz_n_ge (pc := 21) (tgt := 88) (hz_dec kX12_layTarget 14 rfl) (by decide) (by omega) (by omega) (fun h1 => ?_) (fun h1 => ?_)
  · skip
    have e3 : i = 3 := by omega
    subst e3
    exact hz_vret (pc := 88) (hz_dec kX12_layTarget 56 rfl) rfl (K f (by rw [hv, Nat.mod_eq_of_lt (by omega)]))
  · skip
    refine hz_iloadn (pc := 24) 3 (hz_dec kX12_layTarget 15 rfl) rfl ?_
    refine hz_iconst (pc := 25) (v := nI 3) (hz_dec kX12_layTarget 16 rfl) (by decide) ?_
    refine hz_subN (pc := 26) (hz_dec kX12_layTarget 17 rfl) (by omega) ?_
    refine hz_iload (pc := 27) 0 (hz_dec kX12_layTarget 18 rfl) rfl ?_
    refine hz_addN (pc := 29) (hz_dec kX12_layTarget 19 rfl) ?_
    refine hz_istore (pc := 30) (i := 5) (lo2 := [(5, .int (nI ((e - 3) + i))), (4, .int (nI i)), (0, .int t), (1, .ref b), (2, .int (nI e)), (3, .int (nI m))]) (hz_dec kX12_layTarget 20 rfl) (by decide) rfl ?_
    refine hz_iload (pc := 32) 0 (hz_dec kX12_layTarget 21 rfl) rfl ?_
    refine hz_z_lt (pc := 34) (tgt := 82) (hz_dec kX12_layTarget 22 rfl) (by decide) (by omega) ?_
    refine hz_iload (pc := 37) 0 (hz_dec kX12_layTarget 23 rfl) rfl ?_
    refine hz_bipush (pc := 39) (v := nI 36) (hz_dec kX12_layTarget 24 rfl) (by decide) ?_
    refine hz_n_ge (pc := 41) (tgt := 82) (hz_dec kX12_layTarget 25 rfl) (by decide) (by omega) (by omega) (fun h2 => ?_) (fun h2 => ?_)
    · skip
      exact absurd h2 (by omega)
    · skip
      refine hz_aloadn (pc := 44) 3 (hz_dec kX12_layTarget 26 rfl) rfl ?_
      refine hz_bipush (pc := 45) (v := nI 8) (hz_dec kX12_layTarget 27 rfl) (by decide) ?_
      refine hz_iload (pc := 47) 0 (hz_dec kX12_layTarget 28 rfl) rfl ?_
      refine hz_iconst (pc := 49) (v := nI 4) (hz_dec kX12_layTarget 29 rfl) (by decide) ?_
      refine hz_divN (pc := 50) (hz_dec kX12_layTarget 30 rfl) (by omega) (by decide) (by decide) ?_
      refine hz_subN (pc := 51) (hz_dec kX12_layTarget 31 rfl) (by omega) ?_
      refine hz_aloadn (pc := 52) 3 (hz_dec kX12_layTarget 32 rfl) rfl ?_
      refine hz_bipush (pc := 53) (v := nI 8) (hz_dec kX12_layTarget 33 rfl) (by decide) ?_
      refine hz_iload (pc := 55) 0 (hz_dec kX12_layTarget 34 rfl) rfl ?_
      refine hz_iconst (pc := 57) (v := nI 4) (hz_dec kX12_layTarget 35 rfl) (by decide) ?_
      refine hz_divN (pc := 58) (hz_dec kX12_layTarget 36 rfl) (by omega) (by decide) (by decide) ?_
      refine hz_subN (pc := 59) (hz_dec kX12_layTarget 37 rfl) (by omega) ?_
      refine hz_iald (pc := 60) (j := 8 - (((e - 3) + i) / 4)) (hz_dec kX12_layTarget 38 rfl) (va_up_self _ _ _) ha hz rfl (by omega) (by decide) ?_
      refine hz_iloadn (pc := 61) 5 (hz_dec kX12_layTarget 39 rfl) rfl ?_
      refine hz_bipush (pc := 62) (v := nI 8) (hz_dec kX12_layTarget 40 rfl) (by decide) ?_
      refine hz_iload (pc := 64) 1 (hz_dec kX12_layTarget 41 rfl) rfl ?_
      refine hz_mulN (pc := 66) (hz_dec kX12_layTarget 42 rfl) ?_
      refine hz_ishr (pc := 67) (hz_dec kX12_layTarget 43 rfl) ?_
      refine hz_sipush (pc := 68) (v := nI 255) (hz_dec kX12_layTarget 44 rfl) (by decide) ?_
      refine hz_andB (pc := 71) (hz_dec kX12_layTarget 45 rfl) ?_
      refine hz_bipush (pc := 72) (v := nI 8) (hz_dec kX12_layTarget 46 rfl) (by decide) ?_
      refine hz_iload (pc := 74) 0 (hz_dec kX12_layTarget 47 rfl) rfl ?_
      refine hz_iconst (pc := 76) (v := nI 4) (hz_dec kX12_layTarget 48 rfl) (by decide) ?_
      refine hz_remN (pc := 77) (hz_dec kX12_layTarget 49 rfl) (by omega) (by decide) (by decide) ?_
      refine hz_mulN (pc := 78) (hz_dec kX12_layTarget 50 rfl) ?_
      refine hz_ishl (pc := 79) (hz_dec kX12_layTarget 51 rfl) ?_
      refine hz_ior (pc := 80) (hz_dec kX12_layTarget 52 rfl) ?_
      refine hz_iast (pc := 81) (j := 8 - (((e - 3) + i) / 4)) (hz_dec kX12_layTarget 53 rfl) (va_up_self _ _ _) ha hz rfl (by omega) (by decide) ?_
      refine hz_mem (pc := 82) (M2 := (va_up M b (.inl (0, 9, .inl (upd f (8 - (((e - 3) + i) / 4)) (((f (8 - (((e - 3) + i) / 4))) ||| ((nI (bb ((nI (m)) >>> ((nI (8 * i)) &&& 31)))) <<< ((nI (8 * (((e - 3) + i) % 4))) &&& 31))))))))) (bx_uu _ _ _ _) ?_
      refine hz_incN (pc := 82) (i := 4) (lo2 := [(4, .int (nI (i + 1))), (5, .int (nI ((e - 3) + i))), (0, .int t), (1, .ref b), (2, .int (nI e)), (3, .int (nI m))]) 1 (hz_dec kX12_layTarget 54 rfl) rfl (by decide) rfl ?_
      refine hz_goto (pc := 85) (tgt := 18) (hz_dec kX12_layTarget 55 rfl) (by decide) ?_
      refine hz_pick (pc := 18) [0, 2, 3, 4, 5] rfl ?_
      refine ih (3 - (i + 1)) (by omega) (i + 1) _ rfl (by omega) ?_
      rw [bb_shr _ (by omega), un_nI (by omega)]
      have q := bg_bput (f := f) (n := 9) (p := e - 3 + i) (v := m / 2 ^ (8 * i) % 256) (by omega) (Nat.mod_lt _ (by decide)) (by rw [hv]; exact tg_z)
      rw [hv, tg_st] at q
      exact q
set_option maxHeartbeats 4000000 in
set_option maxRecDepth 100000 in
theorem c_layT {κ : hz_C} {z : Nat} {M : hz_M} {b : Nat} {f0 : Nat → Int32} (hM : M b = .inl (0, 9, .inl f0)) (ha : 8 ≤ b) (hz : b < z) {t : Int32} (he : 3 ≤ tgE t) (he2 : tgE t ≤ 36) : hz_Mt κ xX12_layTarget 1 0 0 [.int t, .ref b] z M (bg_P M z b (tgT t)) := by
  refine hz_ent (lo := [(0, .int t), (1, .ref b)]) (by decide) (Nat.le_of_ble_eq_true rfl) rfl ?_
  refine hz_aloadn (pc := 0) 1 (hz_dec kX12_layTarget 0 rfl) rfl ?_
  refine hz_callS (pc := 1) (As := [.ref b]) (st := []) (hz_dec kX12_layTarget 1 rfl) co_X12_360 sc_X12_clearBig (c_clear hM ha hz) rfl (by decide) ⟨Nat.le_refl _, Nat.le_refl _⟩ (Nat.le_of_ble_eq_true rfl) rfl (fun r9 z9 M9 hp9 => ?_)
  obtain ⟨rfl, rfl, f1, hf1, rfl⟩ := hp9
  refine hz_iloadn (pc := 4) 0 (hz_dec kX12_layTarget 2 rfl) rfl ?_
  refine hz_bipush (pc := 5) (v := nI 24) (hz_dec kX12_layTarget 3 rfl) (by decide) ?_
  refine hz_iushr (pc := 7) (hz_dec kX12_layTarget 4 rfl) ?_
  refine hz_eqi (pc := 8) (tg_e t) ?_
  refine hz_istoren (pc := 8) (i := 2) (lo2 := [(2, .int (nI (tgE t))), (0, .int t), (1, .ref b)]) (hz_dec kX12_layTarget 5 rfl) rfl (by decide) rfl ?_
  refine hz_iloadn (pc := 9) 1 (hz_dec kX12_layTarget 6 rfl) rfl ?_
  refine hz_ldcw (pc := 10) (v := nI 16777215) (hz_dec kX12_layTarget 7 rfl) ks_X12_364 ?_
  refine hz_iand (pc := 13) (hz_dec kX12_layTarget 8 rfl) ?_
  refine hz_eqi (pc := 14) (tg_m t) ?_
  refine hz_istoren (pc := 14) (i := 3) (lo2 := [(3, .int (nI (tgM t))), (2, .int (nI (tgE t))), (0, .int t), (1, .ref b)]) (hz_dec kX12_layTarget 9 rfl) rfl (by decide) rfl ?_
  refine hz_iconst (pc := 15) (v := nI 0) (hz_dec kX12_layTarget 10 rfl) (by decide) ?_
  refine hz_istore (pc := 16) (i := 4) (lo2 := [(4, .int (nI 0)), (3, .int (nI (tgM t))), (2, .int (nI (tgE t))), (0, .int t), (1, .ref b)]) (hz_dec kX12_layTarget 11 rfl) (by decide) rfl ?_
  refine hz_pick (pc := 18) [0, 3, 4, 2, 1] rfl ?_
  refine c_layT_l hM ha hz he he2 (tgM_lt t) (fun f h => ⟨rfl, rfl, f, h, rfl⟩) 3 0 f1 rfl (by omega) (by rw [hf1]; simp [Nat.mod_one])
