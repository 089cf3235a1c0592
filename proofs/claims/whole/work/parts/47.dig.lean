/-! the digits of what is signed; parts out of bytes -/
def dgD (h : Int32) (i : Nat) : Nat := un h / 2 ^ (28 - 4 * i) % 16
theorem dgD_lt (h : Int32) (i : Nat) : dgD h i < 16 := Nat.mod_lt _ (by decide)
def dgC (h : Int32) : Nat → Nat
  | 0 => 0
  | i + 1 => dgC h i + (15 - dgD h i)
theorem dgC_le (h : Int32) : ∀ i, dgC h i ≤ 15 * i := by
  intro i
  induction i with
  | zero => exact Nat.le_refl _
  | succ i ih => simp only [dgC]; omega
/-- the eight digits of a HASH whose first word is h -/
def dgA (h : Int32) (i : Nat) : Nat := if i < 6 then dgD h i else if i = 6 then dgC h 6 / 16 else dgC h 6 % 16
theorem and15 (x : Int32) : x &&& nI 15 = nI (un x % 16) := pk_and x 4 (by decide)
theorem shr_16 (x : Int32) {k : Nat} (hk : k ≤ 4) : un (x >>> (nI k &&& 31)) % 16 = un x / 2 ^ k % 16 := by
  have q := bb_shr x (k := k) (by omega)
  rw [bb_un] at q
  omega
theorem dg_byte {d h : Nat → Int32} {i : Nat} (hd : ∀ i, i < 32 → d i = sh_dg h i) (hi : i < 6) {s : Nat} (hs : s = if i % 2 = 0 then 4 else 0) : un (d (i / 2)) / 2 ^ s % 16 = dgD (h 0) i := by
  have e : bb (d (i / 2)) = un (h 0) / 2 ^ (24 - 8 * (i / 2)) % 256 := by
    rw [hd _ (by omega)]
    unfold sh_dg
    rw [bb_i8, bb_i8, show i / 2 / 4 = 0 by omega, show i / 2 % 4 = i / 2 by omega, bb_shr _ (by omega)]
  rw [bb_un] at e
  unfold dgD
  subst hs
  rcases (show i = 0 ∨ i = 1 ∨ i = 2 ∨ i = 3 ∨ i = 4 ∨ i = 5 by omega) with rfl | rfl | rfl | rfl | rfl | rfl <;> simp at e ⊢ <;> omega
set_option maxHeartbeats 4000000 in
set_option maxRecDepth 100000 in
theorem c_findD_l {κ : hz_C} {z : Nat} {M : hz_M} {B : Nat} {fs : List Value} (hO : M B = .inr (12, fs)) (hF : md_F B fs) (h8 : 8 ≤ B) (hz : B + 88 ≤ z) {dd h q0 : Nat → Int32} (hd : M (B + 5) = .inl (1, 32, .inl dd)) (hdd : ∀ i, i < 32 → dd i = sh_dg h i) (h9 : M (B + 9) = .inl (0, 8, .inl q0)) {P : hz_P} (K : ∀ q : Nat → Int32, (∀ j, j < 8 → q j = nI (dgA (h 0) j)) → P none z (va_up M (B + 9) (.inl (0, 8, .inl q)))) : ∀ k i q, k = 6 - i → i ≤ 6 → (∀ j, j < i → q j = nI (dgD (h 0) j)) → hz_W κ xX12_findDigits 0 0 0 P 0 0 4 [(2, .int (nI i)), (1, .int (nI (dgC (h 0) i))), (0, .ref B)] [] z (va_up M (B + 9) (.inl (0, 8, .inl q))) := by
  intro k
  induction k using Nat.strongRecOn with
  | ind k ih =>
  intro i q hk hi hs
  have hC := dgC_le (h 0) i
  refine hz_iloadn (pc := 4) 0 (hz_dec kX12_findDigits 4 rfl) rfl ?_
  refine hz_bipush (pc := 5) (v := nI 6) (hz_dec kX12_findDigits 5 rfl) (by decide) ?_
  refine hz_n_ge (pc := 7) (tgt := 57) (hz_dec kX12_findDigits 6 rfl) (by decide) (by omega) (by omega) (fun h1 => ?_) (fun h1 => ?_)
  · skip
    have e : i = 6 := by omega
    subst e
    refine hz_aloadn (pc := 57) 2 (hz_dec kX12_findDigits 38 rfl) rfl ?_
    refine hz_get (pc := 58) (v := .ref (B + 9)) (hz_dec kX12_findDigits 39 rfl) fo_X12_36 (hz_mne hO (by omega)) h8 (by omega) (hF.2 10 (by decide) (by decide)) ?_
    refine hz_bipush (pc := 61) (v := nI 6) (hz_dec kX12_findDigits 40 rfl) (by decide) ?_
    refine hz_iloadn (pc := 63) 1 (hz_dec kX12_findDigits 41 rfl) rfl ?_
    refine hz_bipush (pc := 64) (v := nI 16) (hz_dec kX12_findDigits 42 rfl) (by decide) ?_
    refine hz_divN (pc := 66) (hz_dec kX12_findDigits 43 rfl) (by omega) (by decide) (by decide) ?_
    refine hz_iast (pc := 67) (j := 6) (hz_dec kX12_findDigits 44 rfl) (va_up_self _ _ _) (by omega) (by omega) rfl (by omega) (by decide) ?_
    refine hz_mem (pc := 68) (M2 := (va_up M (B + 9) (.inl (0, 8, .inl (upd q 6 ((nI ((dgC (h 0) 6) / 16)))))))) (bx_uu _ _ _ _) ?_
    refine hz_aloadn (pc := 68) 2 (hz_dec kX12_findDigits 45 rfl) rfl ?_
    refine hz_get (pc := 69) (v := .ref (B + 9)) (hz_dec kX12_findDigits 46 rfl) fo_X12_36 (hz_mne hO (by omega)) h8 (by omega) (hF.2 10 (by decide) (by decide)) ?_
    refine hz_bipush (pc := 72) (v := nI 7) (hz_dec kX12_findDigits 47 rfl) (by decide) ?_
    refine hz_iloadn (pc := 74) 1 (hz_dec kX12_findDigits 48 rfl) rfl ?_
    refine hz_bipush (pc := 75) (v := nI 16) (hz_dec kX12_findDigits 49 rfl) (by decide) ?_
    refine hz_remN (pc := 77) (hz_dec kX12_findDigits 50 rfl) (by omega) (by decide) (by decide) ?_
    refine hz_iast (pc := 78) (j := 7) (hz_dec kX12_findDigits 51 rfl) (va_up_self _ _ _) (by omega) (by omega) rfl (by omega) (by decide) ?_
    refine hz_mem (pc := 79) (M2 := (va_up M (B + 9) (.inl (0, 8, .inl (upd (upd q 6 ((nI ((dgC (h 0) 6) / 16)))) 7 ((nI ((dgC (h 0) 6) % 16)))))))) (bx_uu _ _ _ _) ?_
    refine hz_vret (pc := 79) (hz_dec kX12_findDigits 52 rfl) rfl (K _ (fun j hj => ?_))
    simp only [upd, dgA]
    rcases (show j < 6 ∨ j = 6 ∨ j = 7 by omega) with r | rfl | rfl
    · rw [if_neg (by omega), if_neg (by omega), if_pos r]; exact hs j r
    · rfl
    · rfl
  · skip
    have hD := dgD_lt (h 0) i
    refine hz_aloadn (pc := 10) 2 (hz_dec kX12_findDigits 7 rfl) rfl ?_
    refine hz_get (pc := 11) (v := .ref (B + 9)) (hz_dec kX12_findDigits 8 rfl) fo_X12_36 (hz_mne hO (by omega)) h8 (by omega) (hF.2 10 (by decide) (by decide)) ?_
    refine hz_iloadn (pc := 14) 0 (hz_dec kX12_findDigits 9 rfl) rfl ?_
    refine hz_aloadn (pc := 15) 2 (hz_dec kX12_findDigits 10 rfl) rfl ?_
    refine hz_get (pc := 16) (v := .ref (B + 5)) (hz_dec kX12_findDigits 11 rfl) fo_X12_22 (hz_mne hO (by omega)) h8 (by omega) (hF.2 6 (by decide) (by decide)) ?_
    refine hz_iloadn (pc := 19) 0 (hz_dec kX12_findDigits 12 rfl) rfl ?_
    refine hz_iconst (pc := 20) (v := nI 2) (hz_dec kX12_findDigits 13 rfl) (by decide) ?_
    refine hz_divN (pc := 21) (hz_dec kX12_findDigits 14 rfl) (by omega) (by decide) (by decide) ?_
    refine hz_bald (pc := 22) (j := i / 2) (hz_dec kX12_findDigits 15 rfl) (hz_mne hd (by omega)) (by omega) (by omega) rfl (by omega) (by decide) ?_
    refine hz_iloadn (pc := 23) 0 (hz_dec kX12_findDigits 16 rfl) rfl ?_
    refine hz_iconst (pc := 24) (v := nI 2) (hz_dec kX12_findDigits 17 rfl) (by decide) ?_
    refine hz_remN (pc := 25) (hz_dec kX12_findDigits 18 rfl) (by omega) (by decide) (by decide) ?_
    refine hz_z_ne (pc := 26) (tgt := 33) (hz_dec kX12_findDigits 19 rfl) (by decide) (by omega) (fun h2 => ?_) (fun h2 => ?_)
    · skip
      refine hz_iconst (pc := 33) (v := nI 0) (hz_dec kX12_findDigits 22 rfl) (by decide) ?_
      refine hz_ishr (pc := 34) (hz_dec kX12_findDigits 23 rfl) ?_
      refine hz_bipush (pc := 35) (v := nI 15) (hz_dec kX12_findDigits 24 rfl) (by decide) ?_
      refine hz_iand (pc := 37) (hz_dec kX12_findDigits 25 rfl) ?_
      refine hz_eqi (pc := 38) (w := nI (dgD (h 0) i)) (by rw [and15, shr_16 _ (by omega), dg_byte hdd h1 (s := 0) (by rw [if_neg (by omega)])]) ?_
      refine hz_iast (pc := 38) (j := i) (hz_dec kX12_findDigits 26 rfl) (va_up_self _ _ _) (by omega) (by omega) rfl (by omega) (by decide) ?_
      refine hz_mem (pc := 39) (M2 := (va_up M (B + 9) (.inl (0, 8, .inl (upd q i ((nI (dgD (h 0) i)))))))) (bx_uu _ _ _ _) ?_
      refine hz_iloadn (pc := 39) 1 (hz_dec kX12_findDigits 27 rfl) rfl ?_
      refine hz_bipush (pc := 40) (v := nI 15) (hz_dec kX12_findDigits 28 rfl) (by decide) ?_
      refine hz_aloadn (pc := 42) 2 (hz_dec kX12_findDigits 29 rfl) rfl ?_
      refine hz_get (pc := 43) (v := .ref (B + 9)) (hz_dec kX12_findDigits 30 rfl) fo_X12_36 (hz_mne hO (by omega)) h8 (by omega) (hF.2 10 (by decide) (by decide)) ?_
      refine hz_iloadn (pc := 46) 0 (hz_dec kX12_findDigits 31 rfl) rfl ?_
      refine hz_iald (pc := 47) (j := i) (hz_dec kX12_findDigits 32 rfl) (va_up_self _ _ _) (by omega) (by omega) rfl (by omega) (by decide) ?_
      refine hz_eqi (pc := 48) (w := nI (dgD (h 0) i)) (by simp [upd]) ?_
      refine hz_subN (pc := 48) (hz_dec kX12_findDigits 33 rfl) (by omega) ?_
      refine hz_addN (pc := 49) (hz_dec kX12_findDigits 34 rfl) ?_
      refine hz_istoren (pc := 50) (i := 1) (lo2 := [(1, .int (nI ((dgC (h 0) i) + (15 - (dgD (h 0) i))))), (2, .int (nI i)), (0, .ref B)]) (hz_dec kX12_findDigits 35 rfl) rfl (by decide) rfl ?_
      refine hz_incN (pc := 51) (i := 2) (lo2 := [(2, .int (nI (i + 1))), (1, .int (nI ((dgC (h 0) i) + (15 - (dgD (h 0) i))))), (0, .ref B)]) 1 (hz_dec kX12_findDigits 36 rfl) rfl (by decide) rfl ?_
      refine hz_goto (pc := 54) (tgt := 4) (hz_dec kX12_findDigits 37 rfl) (by decide) ?_
      refine hz_pick (pc := 4) [0, 1, 2] rfl ?_
      refine ih (6 - (i + 1)) (by omega) (i + 1) _ rfl (by omega) (fun j hj => ?_)
      simp only [upd]
      split
      · next e => rw [e]
      · exact hs j (by omega)
    · skip
      refine hz_iconst (pc := 29) (v := nI 4) (hz_dec kX12_findDigits 20 rfl) (by decide) ?_
      refine hz_goto (pc := 30) (tgt := 34) (hz_dec kX12_findDigits 21 rfl) (by decide) ?_
      refine hz_ishr (pc := 34) (hz_dec kX12_findDigits 23 rfl) ?_
      refine hz_bipush (pc := 35) (v := nI 15) (hz_dec kX12_findDigits 24 rfl) (by decide) ?_
      refine hz_iand (pc := 37) (hz_dec kX12_findDigits 25 rfl) ?_
      refine hz_eqi (pc := 38) (w := nI (dgD (h 0) i)) (by rw [and15, shr_16 _ (by omega), dg_byte hdd h1 (s := 4) (by rw [if_pos (by omega)])]) ?_
      refine hz_iast (pc := 38) (j := i) (hz_dec kX12_findDigits 26 rfl) (va_up_self _ _ _) (by omega) (by omega) rfl (by omega) (by decide) ?_
      refine hz_mem (pc := 39) (M2 := (va_up M (B + 9) (.inl (0, 8, .inl (upd q i ((nI (dgD (h 0) i)))))))) (bx_uu _ _ _ _) ?_
      refine hz_iloadn (pc := 39) 1 (hz_dec kX12_findDigits 27 rfl) rfl ?_
      refine hz_bipush (pc := 40) (v := nI 15) (hz_dec kX12_findDigits 28 rfl) (by decide) ?_
      refine hz_aloadn (pc := 42) 2 (hz_dec kX12_findDigits 29 rfl) rfl ?_
      refine hz_get (pc := 43) (v := .ref (B + 9)) (hz_dec kX12_findDigits 30 rfl) fo_X12_36 (hz_mne hO (by omega)) h8 (by omega) (hF.2 10 (by decide) (by decide)) ?_
      refine hz_iloadn (pc := 46) 0 (hz_dec kX12_findDigits 31 rfl) rfl ?_
      refine hz_iald (pc := 47) (j := i) (hz_dec kX12_findDigits 32 rfl) (va_up_self _ _ _) (by omega) (by omega) rfl (by omega) (by decide) ?_
      refine hz_eqi (pc := 48) (w := nI (dgD (h 0) i)) (by simp [upd]) ?_
      refine hz_subN (pc := 48) (hz_dec kX12_findDigits 33 rfl) (by omega) ?_
      refine hz_addN (pc := 49) (hz_dec kX12_findDigits 34 rfl) ?_
      refine hz_istoren (pc := 50) (i := 1) (lo2 := [(1, .int (nI ((dgC (h 0) i) + (15 - (dgD (h 0) i))))), (2, .int (nI i)), (0, .ref B)]) (hz_dec kX12_findDigits 35 rfl) rfl (by decide) rfl ?_
      refine hz_incN (pc := 51) (i := 2) (lo2 := [(2, .int (nI (i + 1))), (1, .int (nI ((dgC (h 0) i) + (15 - (dgD (h 0) i))))), (0, .ref B)]) 1 (hz_dec kX12_findDigits 36 rfl) rfl (by decide) rfl ?_
      refine hz_goto (pc := 54) (tgt := 4) (hz_dec kX12_findDigits 37 rfl) (by decide) ?_
      refine hz_pick (pc := 4) [0, 1, 2] rfl ?_
      refine ih (6 - (i + 1)) (by omega) (i + 1) _ rfl (by omega) (fun j hj => ?_)
      simp only [upd]
      split
      · next e => rw [e]
      · exact hs j (by omega)
def dg_P (M : hz_M) (z b : Nat) (h : Int32) : hz_P := fun r z2 M2 => none = r ∧ z = z2 ∧ ∃ q : Nat → Int32, (∀ j, j < 8 → q j = nI (dgA h j)) ∧ va_up M b (.inl (0, 8, .inl q)) = M2
set_option maxHeartbeats 4000000 in
set_option maxRecDepth 100000 in
theorem c_findD {κ : hz_C} {z : Nat} {M : hz_M} {B : Nat} {fs : List Value} (hO : M B = .inr (12, fs)) (hF : md_F B fs) (h8 : 8 ≤ B) (hz : B + 88 ≤ z) {dd h q0 : Nat → Int32} (hd : M (B + 5) = .inl (1, 32, .inl dd)) (hdd : ∀ i, i < 32 → dd i = sh_dg h i) (h9 : M (B + 9) = .inl (0, 8, .inl q0)) : hz_Mt κ xX12_findDigits 0 0 0 [.ref B] z M (dg_P M z (B + 9) (h 0)) := by
  refine hz_ent (lo := [(0, .ref B)]) (by decide) (Nat.le_of_ble_eq_true rfl) rfl ?_
  refine hz_iconst (pc := 0) (v := nI 0) (hz_dec kX12_findDigits 0 rfl) (by decide) ?_
  refine hz_istoren (pc := 1) (i := 1) (lo2 := [(1, .int (nI 0)), (0, .ref B)]) (hz_dec kX12_findDigits 1 rfl) rfl (by decide) rfl ?_
  refine hz_iconst (pc := 2) (v := nI 0) (hz_dec kX12_findDigits 2 rfl) (by decide) ?_
  refine hz_istoren (pc := 3) (i := 2) (lo2 := [(2, .int (nI 0)), (1, .int (nI 0)), (0, .ref B)]) (hz_dec kX12_findDigits 3 rfl) rfl (by decide) rfl ?_
  refine hz_pick (pc := 4) [0, 1, 2] rfl ?_
  refine hz_mem (hz_upid h9).symm ?_
  exact c_findD_l hO hF h8 hz hd hdd h9 (fun q hq => ⟨rfl, rfl, q, hq, rfl⟩) 6 0 q0 rfl (by omega) (fun j hj => absurd hj (by omega))
set_option maxHeartbeats 4000000 in
set_option maxRecDepth 100000 in
theorem c_kload_l {κ : hz_C} {z : Nat} {M : hz_M} (hk : M 13 = .inr (4, [.ref 9, .ref 14, .ref 15, .ref 16, .ref 17, .ref 18, .ref 19])) (hz : 63 ≤ z) {p0 : Nat → Int64} (h14 : M 14 = .inl (2, 8, .inr (.inl p0))) {b nb at_ : Nat} {f : Nat → Int32} (hB : M b = .inl (1, nb, .inl f)) (hb8 : 8 ≤ b) (hbz : b < z) (hnb : nb < 2 ^ 30) (hr : at_ + 64 ≤ nb) {P : hz_P} (K : ∀ p : Nat → Int64, (∀ j, j < 8 → p j = bn_num f (at_ + 8 * j) 8) → P none z (va_up M 14 (.inl (2, 8, .inr (.inl p))))) : ∀ k i p, k = 8 - i → i ≤ 8 → (∀ j, j < i → p j = bn_num f (at_ + 8 * j) 8) → hz_W κ xX4_load 1 0 0 P 0 0 2 [(3, .int (nI i)), (0, .ref 13), (1, .ref b), (2, .int (nI at_))] [] z (va_up M 14 (.inl (2, 8, .inr (.inl p)))) := by
  intro k
  induction k using Nat.strongRecOn with
  | ind k ih =>
  intro i p hk2 hi hs
  have hne : b ≠ 14 := fun e => by rw [e, h14] at hB; cases hB
  refine hz_iloadn (pc := 2) 0 (hz_dec kX4_load 2 rfl) rfl ?_
  refine hz_bipush (pc := 3) (v := nI 8) (hz_dec kX4_load 3 rfl) (by decide) ?_
  refine hz_n_ge (pc := 5) (tgt := 32) (hz_dec kX4_load 4 rfl) (by decide) (by omega) (by omega) (fun h1 => ?_) (fun h1 => ?_)
  · skip
    have e : i = 8 := by omega
    subst e
    exact hz_vret (pc := 32) (hz_dec kX4_load 19 rfl) rfl (K p hs)
  · skip
    refine hz_aloadn (pc := 8) 1 (hz_dec kX4_load 5 rfl) rfl ?_
    refine hz_get (pc := 9) (hz_dec kX4_load 6 rfl) fo_X4_9 (hz_mne hk (by decide)) (by decide) (by omega) rfl ?_
    refine hz_iloadn (pc := 12) 0 (hz_dec kX4_load 7 rfl) rfl ?_
    refine hz_aloadn (pc := 13) 2 (hz_dec kX4_load 8 rfl) rfl ?_
    refine hz_iloadn (pc := 14) 3 (hz_dec kX4_load 9 rfl) rfl ?_
    refine hz_bipush (pc := 15) (v := nI 8) (hz_dec kX4_load 10 rfl) (by decide) ?_
    refine hz_iloadn (pc := 17) 0 (hz_dec kX4_load 11 rfl) rfl ?_
    refine hz_mulN (pc := 18) (hz_dec kX4_load 12 rfl) ?_
    refine hz_addN (pc := 19) (hz_dec kX4_load 13 rfl) ?_
    refine hz_bipush (pc := 20) (v := nI 8) (hz_dec kX4_load 14 rfl) (by decide) ?_
    refine hz_xS (pc := 22) (As := [.ref b, .int (nI (at_ + (8 * i))), .int (nI 8)]) (st := [.int (nI i), .ref 14]) (hz_dec kX4_load 15 rfl) co_X4_76 sc_X0_number (c_number (hz_mne hB hne) hb8 hbz (by omega) (by omega)) rfl (by decide) ⟨Nat.le_refl _, Nat.le_refl _⟩ (Nat.le_of_ble_eq_true rfl) rfl ?_
    refine hz_last (pc := 25) (j := i) (hz_dec kX4_load 16 rfl) (va_up_self _ _ _) (by decide) (by omega) rfl (by omega) (by decide) ?_
    refine hz_mem (pc := 26) (M2 := (va_up M 14 (.inl (2, 8, .inr (.inl (vp_updL p i (bn_num f (at_ + 8 * i) 8))))))) (bx_uu _ _ _ _) ?_
    refine hz_incN (pc := 26) (i := 3) (lo2 := [(3, .int (nI (i + 1))), (0, .ref 13), (1, .ref b), (2, .int (nI at_))]) 0 (hz_dec kX4_load 17 rfl) rfl (by decide) rfl ?_
    refine hz_goto (pc := 29) (tgt := 2) (hz_dec kX4_load 18 rfl) (by decide) ?_
    refine hz_pick (pc := 2) [0, 1, 2, 3] rfl ?_
    refine ih (8 - (i + 1)) (by omega) (i + 1) _ rfl (by omega) (fun j hj => ?_)
    simp only [vp_updL]
    split
    · next e => subst e; rfl
    · exact hs j (by omega)
set_option maxHeartbeats 4000000 in
set_option maxRecDepth 100000 in
theorem c_kload {κ : hz_C} {z : Nat} {M : hz_M} (hk : M 13 = .inr (4, [.ref 9, .ref 14, .ref 15, .ref 16, .ref 17, .ref 18, .ref 19])) (hz : 63 ≤ z) {p0 : Nat → Int64} (h14 : M 14 = .inl (2, 8, .inr (.inl p0))) {b nb at_ : Nat} {f : Nat → Int32} (hB : M b = .inl (1, nb, .inl f)) (hb8 : 8 ≤ b) (hbz : b < z) (hnb : nb < 2 ^ 30) (hr : at_ + 64 ≤ nb) : hz_Mt κ xX4_load 1 0 0 [.ref 13, .ref b, .int (nI at_)] z M (fun r z2 M2 => none = r ∧ z = z2 ∧ ∃ p : Nat → Int64, (∀ j, j < 8 → p j = bn_num f (at_ + 8 * j) 8) ∧ (va_up M 14 (.inl (2, 8, .inr (.inl p)))) = M2) := by
  refine hz_ent (lo := [(0, .ref 13), (1, .ref b), (2, .int (nI at_))]) (by decide) (Nat.le_of_ble_eq_true rfl) rfl ?_
  refine hz_iconst (pc := 0) (v := nI 0) (hz_dec kX4_load 0 rfl) (by decide) ?_
  refine hz_istoren (pc := 1) (i := 3) (lo2 := [(3, .int (nI 0)), (0, .ref 13), (1, .ref b), (2, .int (nI at_))]) (hz_dec kX4_load 1 rfl) rfl (by decide) rfl ?_
  refine hz_pick (pc := 2) [0, 1, 2, 3] rfl ?_
  refine hz_mem (hz_upid h14).symm ?_
  exact c_kload_l hk hz h14 hB hb8 hbz hnb hr (fun p hp => ⟨rfl, rfl, p, hp, rfl⟩) 8 0 p0 rfl (by omega) (fun j hj => absurd hj (by omega))
