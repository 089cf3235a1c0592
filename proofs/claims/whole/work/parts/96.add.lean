/-! Tree: note, add -/
def pvH (en : List en_E) (p : Option Nat) : Nat := match p with
  | none => 0
  | some q => eH en q + 1
/-- one word of a sum, anywhere -/
theorem ad_g {f fw : Nat → Int32} {a b m C x W Y y : Nat} (hW : W = 4294967296 ^ m) (h : bg f (a + 1) m + C * W = bg fw (b + 1) m + Y) (hx : x = C + (un (fw b) + y)) : bg (upd f a (nI x)) a (m + 1) + x / 4294967296 * (W * 4294967296) = bg fw b (m + 1) + (y * W + Y) := by
  rw [bg_cons, bg_cons fw, bg_up m (by omega), ← hW]
  have e0 : upd f a (nI x) a = nI x := by simp [upd]
  rw [e0, un_nIm]
  have e1 : x % 4294967296 + x / 4294967296 * 4294967296 = C + (un (fw b) + y) := by omega
  have e2 := congrArg (fun t => t * W) e1
  simp only [Nat.add_mul] at e2
  rw [Nat.mul_assoc, Nat.mul_comm 4294967296 W] at e2
  omega
def yW (p : Option Nat) (f : Nat → Int32) (i : Nat) : Nat := match p with
  | none => 0
  | some q => un (f (8 * q + i))
def yB (p : Option Nat) (f : Nat → Int32) (i m : Nat) : Nat := match p with
  | none => 0
  | some q => bg f (8 * q + i) m
theorem yB_st (p : Option Nat) (f : Nat → Int32) (i m : Nat) : yB p f i (m + 1) = yW p f i * 4294967296 ^ m + yB p f (i + 1) m := by
  cases p with
  | none => show 0 = 0 * _ + 0; rw [Nat.zero_mul]
  | some q => exact bg_cons f (8 * q + i) m
theorem yW_lt (p : Option Nat) (f : Nat → Int32) (i : Nat) : yW p f i < 4294967296 := by
  cases p with
  | none => exact (by decide : 0 < 4294967296)
  | some q => exact un_lt _
theorem neg_lt {k : Nat} (h : k < 129) : (-1 : Int32) < nI k := by
  rw [Int32.lt_iff_toInt_lt, nI_toInt (by omega)]
  show (-1 : Int) < k
  omega
set_option maxHeartbeats 4000000 in
set_option maxRecDepth 100000 in
theorem c_note1 {κ : hz_C} {z : Nat} {M : hz_M} {t tip : Nat} (hT : M t = trO t tip) (ht8 : 63 ≤ t) (htz : t + 13 ≤ z) {fb fht ftm fbi : Nat → Int32} (kfb : M (t + 5) = .inl (0, 129, .inl fb)) (kfht : M (t + 6) = .inl (0, 129, .inl fht)) (kftm : M (t + 7) = .inl (0, 129, .inl ftm)) (kfbi : M (t + 8) = .inl (0, 129, .inl fbi)) {b n at_ : Nat} {f : Nat → Int32} (hB : M b = .inl (1, n, .inl f)) (hb8 : 8 ≤ b) (hbz : b < z) (hbo : b < t ∨ t + 13 ≤ b) (hn : n < 2 ^ 24) (hat : at_ + 80 ≤ n) {k : Nat} (hk : k < 129) {p eh : Nat} (hp : p < k) (heh : fht p = nI eh) (heh2 : eh < 1000) : hz_Mt κ xX10_note 1 0 0 [.ref t, .int (nI k), .int (nI p), .ref b, .int (nI at_)] z M (hz_ex none z (va_up (va_up (va_up (va_up M (t + 5) (.inl (0, 129, .inl (upd fb k (nI p))))) (t + 6) (.inl (0, 129, .inl (upd fht k (nI (eh + 1)))))) (t + 7) (.inl (0, 129, .inl (upd ftm k (bn_int f (at_ + 64)))))) (t + 8) (.inl (0, 129, .inl (upd fbi k (bn_int f (at_ + 68))))))) := by
  refine hz_ent (lo := [(0, .ref t), (1, .int (nI k)), (2, .int (nI p)), (3, .ref b), (4, .int (nI at_))]) (by decide) (Nat.le_of_ble_eq_true rfl) rfl ?_
  refine hz_iloadn (pc := 0) 1 (hz_dec kX10_note 0 rfl) rfl ?_
  refine hz_z_lt (pc := 1) (tgt := 18) (hz_dec kX10_note 1 rfl) (by decide) (by omega) ?_
  refine hz_iloadn (pc := 4) 1 (hz_dec kX10_note 2 rfl) rfl ?_
  refine hz_aloadn (pc := 5) 0 (hz_dec kX10_note 3 rfl) rfl ?_
  refine hz_get (pc := 6) (hz_dec kX10_note 4 rfl) fo_X10_24 hT (by omega) (by omega) rfl ?_
  refine hz_alen (pc := 9) (hz_dec kX10_note 5 rfl) kfb (by decide) (by omega) (by omega) ?_
  refine hz_n_ge (pc := 10) (tgt := 18) (hz_dec kX10_note 6 rfl) (by decide) (by omega) (by omega) (fun h1 => ?_) (fun h1 => ?_)
  · skip
    exact absurd h1 (by omega)
  · skip
    refine hz_iloadn (pc := 13) 2 (hz_dec kX10_note 7 rfl) rfl ?_
    refine hz_iloadn (pc := 14) 1 (hz_dec kX10_note 8 rfl) rfl ?_
    refine hz_n_lt (pc := 15) (tgt := 19) (hz_dec kX10_note 9 rfl) (by decide) (by omega) (by omega) (fun h2 => ?_) (fun h2 => ?_)
    · skip
      refine hz_aloadn (pc := 19) 0 (hz_dec kX10_note 11 rfl) rfl ?_
      refine hz_get (pc := 20) (hz_dec kX10_note 12 rfl) fo_X10_24 hT (by omega) (by omega) rfl ?_
      refine hz_iloadn (pc := 23) 1 (hz_dec kX10_note 13 rfl) rfl ?_
      refine hz_iloadn (pc := 24) 2 (hz_dec kX10_note 14 rfl) rfl ?_
      refine hz_iast (pc := 25) (j := k) (hz_dec kX10_note 15 rfl) kfb (by omega) (by omega) rfl (by omega) (by decide) ?_
      refine hz_aloadn (pc := 26) 0 (hz_dec kX10_note 16 rfl) rfl ?_
      refine hz_get (pc := 27) (hz_dec kX10_note 17 rfl) fo_X10_28 (hz_mne hT (by omega)) (by omega) (by omega) rfl ?_
      refine hz_iloadn (pc := 30) 1 (hz_dec kX10_note 18 rfl) rfl ?_
      refine hz_iloadn (pc := 31) 2 (hz_dec kX10_note 19 rfl) rfl ?_
      refine hz_z_ge (pc := 32) (tgt := 39) (hz_dec kX10_note 20 rfl) (by decide) (by omega) ?_
      refine hz_aloadn (pc := 39) 0 (hz_dec kX10_note 23 rfl) rfl ?_
      refine hz_get (pc := 40) (hz_dec kX10_note 24 rfl) fo_X10_28 (hz_mne hT (by omega)) (by omega) (by omega) rfl ?_
      refine hz_iloadn (pc := 43) 2 (hz_dec kX10_note 25 rfl) rfl ?_
      refine hz_iald (pc := 44) (j := p) (hz_dec kX10_note 26 rfl) (hz_mne kfht (by omega)) (by omega) (by omega) rfl (by omega) (by decide) ?_
      refine hz_eqi (pc := 45) heh ?_
      refine hz_iconst (pc := 45) (v := nI 1) (hz_dec kX10_note 27 rfl) (by decide) ?_
      refine hz_addN (pc := 46) (hz_dec kX10_note 28 rfl) ?_
      refine hz_iast (pc := 47) (j := k) (hz_dec kX10_note 29 rfl) (hz_mne kfht (by omega)) (by omega) (by omega) rfl (by omega) (by decide) ?_
      refine hz_aloadn (pc := 48) 0 (hz_dec kX10_note 30 rfl) rfl ?_
      refine hz_get (pc := 49) (hz_dec kX10_note 31 rfl) fo_X10_31 (hz_mne (hz_mne hT (by omega)) (by omega)) (by omega) (by omega) rfl ?_
      refine hz_iloadn (pc := 52) 1 (hz_dec kX10_note 32 rfl) rfl ?_
      refine hz_aloadn (pc := 53) 3 (hz_dec kX10_note 33 rfl) rfl ?_
      refine hz_iload (pc := 54) 4 (hz_dec kX10_note 34 rfl) rfl ?_
      refine hz_bipush (pc := 56) (v := nI 64) (hz_dec kX10_note 35 rfl) (by decide) ?_
      refine hz_addN (pc := 58) (hz_dec kX10_note 36 rfl) ?_
      refine hz_iconst (pc := 59) (v := nI 4) (hz_dec kX10_note 37 rfl) (by decide) ?_
      refine hz_xS (pc := 60) (As := [.ref b, .int (nI (at_ + 64)), .int (nI 4)]) (st := [.int (nI k), .ref (t + 7)]) (hz_dec kX10_note 38 rfl) co_X10_117 sc_X0_number (c_number (hz_mne (hz_mne hB (by omega)) (by omega)) hb8 hbz (by omega) (by omega)) rfl (by decide) ⟨Nat.le_refl _, Nat.le_refl _⟩ (Nat.le_of_ble_eq_true rfl) rfl ?_
      refine hz_l2i (pc := 63) (hz_dec kX10_note 39 rfl) ?_
      refine hz_eqi (pc := 64) (bn_int_l f (at_ + 64)) ?_
      refine hz_iast (pc := 64) (j := k) (hz_dec kX10_note 40 rfl) (hz_mne (hz_mne kftm (by omega)) (by omega)) (by omega) (by omega) rfl (by omega) (by decide) ?_
      refine hz_aloadn (pc := 65) 0 (hz_dec kX10_note 41 rfl) rfl ?_
      refine hz_get (pc := 66) (hz_dec kX10_note 42 rfl) fo_X10_34 (hz_mne (hz_mne (hz_mne hT (by omega)) (by omega)) (by omega)) (by omega) (by omega) rfl ?_
      refine hz_iloadn (pc := 69) 1 (hz_dec kX10_note 43 rfl) rfl ?_
      refine hz_aloadn (pc := 70) 3 (hz_dec kX10_note 44 rfl) rfl ?_
      refine hz_iload (pc := 71) 4 (hz_dec kX10_note 45 rfl) rfl ?_
      refine hz_bipush (pc := 73) (v := nI 68) (hz_dec kX10_note 46 rfl) (by decide) ?_
      refine hz_addN (pc := 75) (hz_dec kX10_note 47 rfl) ?_
      refine hz_iconst (pc := 76) (v := nI 4) (hz_dec kX10_note 48 rfl) (by decide) ?_
      refine hz_xS (pc := 77) (As := [.ref b, .int (nI (at_ + 68)), .int (nI 4)]) (st := [.int (nI k), .ref (t + 8)]) (hz_dec kX10_note 49 rfl) co_X10_117 sc_X0_number (c_number (hz_mne (hz_mne (hz_mne hB (by omega)) (by omega)) (by omega)) hb8 hbz (by omega) (by omega)) rfl (by decide) ⟨Nat.le_refl _, Nat.le_refl _⟩ (Nat.le_of_ble_eq_true rfl) rfl ?_
      refine hz_l2i (pc := 80) (hz_dec kX10_note 50 rfl) ?_
      refine hz_eqi (pc := 81) (bn_int_l f (at_ + 68)) ?_
      refine hz_iast (pc := 81) (j := k) (hz_dec kX10_note 51 rfl) (hz_mne (hz_mne (hz_mne kfbi (by omega)) (by omega)) (by omega)) (by omega) (by omega) rfl (by omega) (by decide) ?_
      exact hz_vret (pc := 82) (hz_dec kX10_note 52 rfl) rfl ⟨rfl, rfl, rfl⟩
    · skip
      exact absurd hp (by omega)
set_option maxHeartbeats 4000000 in
set_option maxRecDepth 100000 in
theorem c_note0 {κ : hz_C} {z : Nat} {M : hz_M} {t tip : Nat} (hT : M t = trO t tip) (ht8 : 63 ≤ t) (htz : t + 13 ≤ z) {fb fht ftm fbi : Nat → Int32} (kfb : M (t + 5) = .inl (0, 129, .inl fb)) (kfht : M (t + 6) = .inl (0, 129, .inl fht)) (kftm : M (t + 7) = .inl (0, 129, .inl ftm)) (kfbi : M (t + 8) = .inl (0, 129, .inl fbi)) {b n at_ : Nat} {f : Nat → Int32} (hB : M b = .inl (1, n, .inl f)) (hb8 : 8 ≤ b) (hbz : b < z) (hbo : b < t ∨ t + 13 ≤ b) (hn : n < 2 ^ 24) (hat : at_ + 80 ≤ n) {k : Nat} (hk : k < 129) : hz_Mt κ xX10_note 1 0 0 [.ref t, .int (nI k), .int (-1), .ref b, .int (nI at_)] z M (hz_ex none z (va_up (va_up (va_up (va_up M (t + 5) (.inl (0, 129, .inl (upd fb k (-1))))) (t + 6) (.inl (0, 129, .inl (upd fht k (nI 0))))) (t + 7) (.inl (0, 129, .inl (upd ftm k (bn_int f (at_ + 64)))))) (t + 8) (.inl (0, 129, .inl (upd fbi k (bn_int f (at_ + 68))))))) := by
  refine hz_ent (lo := [(0, .ref t), (1, .int (nI k)), (2, .int (-1)), (3, .ref b), (4, .int (nI at_))]) (by decide) (Nat.le_of_ble_eq_true rfl) rfl ?_
  refine hz_iloadn (pc := 0) 1 (hz_dec kX10_note 0 rfl) rfl ?_
  refine hz_z_lt (pc := 1) (tgt := 18) (hz_dec kX10_note 1 rfl) (by decide) (by omega) ?_
  refine hz_iloadn (pc := 4) 1 (hz_dec kX10_note 2 rfl) rfl ?_
  refine hz_aloadn (pc := 5) 0 (hz_dec kX10_note 3 rfl) rfl ?_
  refine hz_get (pc := 6) (hz_dec kX10_note 4 rfl) fo_X10_24 hT (by omega) (by omega) rfl ?_
  refine hz_alen (pc := 9) (hz_dec kX10_note 5 rfl) kfb (by decide) (by omega) (by omega) ?_
  refine hz_n_ge (pc := 10) (tgt := 18) (hz_dec kX10_note 6 rfl) (by decide) (by omega) (by omega) (fun h1 => ?_) (fun h1 => ?_)
  · skip
    exact absurd h1 (by omega)
  · skip
    refine hz_iloadn (pc := 13) 2 (hz_dec kX10_note 7 rfl) rfl ?_
    refine hz_iloadn (pc := 14) 1 (hz_dec kX10_note 8 rfl) rfl ?_
    refine hz_icmp_lt (pc := 15) (tgt := 19) (hz_dec kX10_note 9 rfl) (by decide) (fun h2 => ?_) (fun h2 => ?_)
    · skip
      refine hz_aloadn (pc := 19) 0 (hz_dec kX10_note 11 rfl) rfl ?_
      refine hz_get (pc := 20) (hz_dec kX10_note 12 rfl) fo_X10_24 hT (by omega) (by omega) rfl ?_
      refine hz_iloadn (pc := 23) 1 (hz_dec kX10_note 13 rfl) rfl ?_
      refine hz_iloadn (pc := 24) 2 (hz_dec kX10_note 14 rfl) rfl ?_
      refine hz_iast (pc := 25) (j := k) (hz_dec kX10_note 15 rfl) kfb (by omega) (by omega) rfl (by omega) (by decide) ?_
      refine hz_aloadn (pc := 26) 0 (hz_dec kX10_note 16 rfl) rfl ?_
      refine hz_get (pc := 27) (hz_dec kX10_note 17 rfl) fo_X10_28 (hz_mne hT (by omega)) (by omega) (by omega) rfl ?_
      refine hz_iloadn (pc := 30) 1 (hz_dec kX10_note 18 rfl) rfl ?_
      refine hz_iloadn (pc := 31) 2 (hz_dec kX10_note 19 rfl) rfl ?_
      refine hz_if_ge (pc := 32) (tgt := 39) (hz_dec kX10_note 20 rfl) (by decide) (fun h3 => ?_) (fun h3 => ?_)
      · skip
        exact absurd h3 (by decide)
      · skip
        refine hz_iconst (pc := 35) (v := nI 0) (hz_dec kX10_note 21 rfl) (by decide) ?_
        refine hz_goto (pc := 36) (tgt := 47) (hz_dec kX10_note 22 rfl) (by decide) ?_
        refine hz_iast (pc := 47) (j := k) (hz_dec kX10_note 29 rfl) (hz_mne kfht (by omega)) (by omega) (by omega) rfl (by omega) (by decide) ?_
        refine hz_aloadn (pc := 48) 0 (hz_dec kX10_note 30 rfl) rfl ?_
        refine hz_get (pc := 49) (hz_dec kX10_note 31 rfl) fo_X10_31 (hz_mne (hz_mne hT (by omega)) (by omega)) (by omega) (by omega) rfl ?_
        refine hz_iloadn (pc := 52) 1 (hz_dec kX10_note 32 rfl) rfl ?_
        refine hz_aloadn (pc := 53) 3 (hz_dec kX10_note 33 rfl) rfl ?_
        refine hz_iload (pc := 54) 4 (hz_dec kX10_note 34 rfl) rfl ?_
        refine hz_bipush (pc := 56) (v := nI 64) (hz_dec kX10_note 35 rfl) (by decide) ?_
        refine hz_addN (pc := 58) (hz_dec kX10_note 36 rfl) ?_
        refine hz_iconst (pc := 59) (v := nI 4) (hz_dec kX10_note 37 rfl) (by decide) ?_
        refine hz_xS (pc := 60) (As := [.ref b, .int (nI (at_ + 64)), .int (nI 4)]) (st := [.int (nI k), .ref (t + 7)]) (hz_dec kX10_note 38 rfl) co_X10_117 sc_X0_number (c_number (hz_mne (hz_mne hB (by omega)) (by omega)) hb8 hbz (by omega) (by omega)) rfl (by decide) ⟨Nat.le_refl _, Nat.le_refl _⟩ (Nat.le_of_ble_eq_true rfl) rfl ?_
        refine hz_l2i (pc := 63) (hz_dec kX10_note 39 rfl) ?_
        refine hz_eqi (pc := 64) (bn_int_l f (at_ + 64)) ?_
        refine hz_iast (pc := 64) (j := k) (hz_dec kX10_note 40 rfl) (hz_mne (hz_mne kftm (by omega)) (by omega)) (by omega) (by omega) rfl (by omega) (by decide) ?_
        refine hz_aloadn (pc := 65) 0 (hz_dec kX10_note 41 rfl) rfl ?_
        refine hz_get (pc := 66) (hz_dec kX10_note 42 rfl) fo_X10_34 (hz_mne (hz_mne (hz_mne hT (by omega)) (by omega)) (by omega)) (by omega) (by omega) rfl ?_
        refine hz_iloadn (pc := 69) 1 (hz_dec kX10_note 43 rfl) rfl ?_
        refine hz_aloadn (pc := 70) 3 (hz_dec kX10_note 44 rfl) rfl ?_
        refine hz_iload (pc := 71) 4 (hz_dec kX10_note 45 rfl) rfl ?_
        refine hz_bipush (pc := 73) (v := nI 68) (hz_dec kX10_note 46 rfl) (by decide) ?_
        refine hz_addN (pc := 75) (hz_dec kX10_note 47 rfl) ?_
        refine hz_iconst (pc := 76) (v := nI 4) (hz_dec kX10_note 48 rfl) (by decide) ?_
        refine hz_xS (pc := 77) (As := [.ref b, .int (nI (at_ + 68)), .int (nI 4)]) (st := [.int (nI k), .ref (t + 8)]) (hz_dec kX10_note 49 rfl) co_X10_117 sc_X0_number (c_number (hz_mne (hz_mne (hz_mne hB (by omega)) (by omega)) (by omega)) hb8 hbz (by omega) (by omega)) rfl (by decide) ⟨Nat.le_refl _, Nat.le_refl _⟩ (Nat.le_of_ble_eq_true rfl) rfl ?_
        refine hz_l2i (pc := 80) (hz_dec kX10_note 50 rfl) ?_
        refine hz_eqi (pc := 81) (bn_int_l f (at_ + 68)) ?_
        refine hz_iast (pc := 81) (j := k) (hz_dec kX10_note 51 rfl) (hz_mne (hz_mne (hz_mne kfbi (by omega)) (by omega)) (by omega)) (by omega) (by omega) rfl (by omega) (by decide) ?_
        exact hz_vret (pc := 82) (hz_dec kX10_note 52 rfl) rfl ⟨rfl, rfl, rfl⟩
    · skip
      exact absurd (neg_lt hk) h2
set_option maxHeartbeats 4000000 in
set_option maxRecDepth 100000 in
theorem c_add_s1 {κ : hz_C} {z : Nat} {M : hz_M} {t tip : Nat} (hT : M t = trO t tip) (ht8 : 63 ≤ t) (htz : t + 13 ≤ z) {wb : Int32} {fw f9 : Nat → Int32} (h20 : M 20 = .inr (9, [.ref 21, .ref 22, .ref 23, .ref 24, .int wb])) (h24 : M 24 = .inl (0, 8, .inl fw)) (h9 : M (t + 9) = .inl (0, 904, .inl f9)) {k : Nat} (hk : k < 113) {p : Nat} (hp : p < k)  {P : hz_P} (K : ∀ (g : Nat → Int32) (C : Nat), (∀ x, x < 8 * k → g x = f9 x) → bg g (8 * k) 8 + C * 4294967296 ^ 8 = bg fw 0 8 + yB (some p) f9 0 8 → hz_W κ xX10_add 3 0 0 P 0 0 184 [(6, .int (nI k)), (0, .ref t)] [] z (va_up M (t + 9) (.inl (0, 904, .inl g)))) : ∀ j g C, j ≤ 8 → C ≤ 1 → (∀ x, x < 8 * k → g x = f9 x) → bg g (8 * k + j) (8 - j) + C * 4294967296 ^ (8 - j) = bg fw j (8 - j) + yB (some p) f9 j (8 - j) → hz_W κ xX10_add 3 0 0 P 0 0 102 [(9, .int (nI j - 1)), (7, .long (lN C)), (6, .int (nI k)), (5, .int (nI p)), (0, .ref t)] [] z (va_up M (t + 9) (.inl (0, 904, .inl g))) := by
  intro j
  induction j with
  | zero =>
    intro g C hj hC hlo hin
    refine hz_iload (pc := 102) 0 (hz_dec kX10_add 54 rfl) rfl ?_
    refine hz_if_lt (pc := 104) (tgt := 184) (hz_dec kX10_add 55 rfl) (by decide) (fun q1 => ?_) (fun q1 => ?_)
    · skip
      refine hz_pick (pc := 184) [2, 4] rfl ?_
      exact K g C hlo hin
    · skip
      exact absurd (by decide) q1
  | succ j ih =>
    intro g C hj hC hlo hin
    rw [nI_pred]
    have hu1 := un_lt (fw j)
    have hu2 := yW_lt (some p) f9 j
    refine hz_iload (pc := 102) 0 (hz_dec kX10_add 54 rfl) rfl ?_
    refine hz_z_lt (pc := 104) (tgt := 184) (hz_dec kX10_add 55 rfl) (by decide) (by omega) ?_
    refine hz_lload (pc := 107) 1 (hz_dec kX10_add 56 rfl) rfl ?_
    refine hz_aloadn (pc := 109) 4 (hz_dec kX10_add 57 rfl) rfl ?_
    refine hz_get (pc := 110) (hz_dec kX10_add 58 rfl) fo_X10_50 (hz_mne hT (by omega)) (by omega) (by omega) rfl ?_
    refine hz_get (pc := 113) (hz_dec kX10_add 59 rfl) fo_X10_97 (hz_mne h20 (by omega)) (by decide) (by omega) rfl ?_
    refine hz_iload (pc := 116) 0 (hz_dec kX10_add 60 rfl) rfl ?_
    refine hz_iald (pc := 118) (j := j) (hz_dec kX10_add 61 rfl) (hz_mne h24 (by omega)) (by decide) (by omega) rfl (by omega) (by decide) ?_
    refine hz_i2l (pc := 119) (hz_dec kX10_add 62 rfl) ?_
    refine hz_ldc2 (pc := 120) (v := (4294967295)) (hz_dec kX10_add 63 rfl) ks_X10_100 ?_
    refine hz_land (pc := 123) (hz_dec kX10_add 64 rfl) ?_
    refine hz_eql (pc := 124) (i_lo32 (fw j)) ?_
    refine hz_iload (pc := 124) 3 (hz_dec kX10_add 65 rfl) rfl ?_
    refine hz_z_ge (pc := 126) (tgt := 133) (hz_dec kX10_add 66 rfl) (by decide) (by omega) ?_
    have hgp : g (8 * p + j) = f9 (8 * p + j) := hlo _ (by omega)
    have hu3 := un_lt (f9 (8 * p + j))
    refine hz_aloadn (pc := 133) 4 (hz_dec kX10_add 69 rfl) rfl ?_
    refine hz_get (pc := 134) (hz_dec kX10_add 70 rfl) fo_X10_37 (hz_mne hT (by omega)) (by omega) (by omega) rfl ?_
    refine hz_bipush (pc := 137) (v := nI 8) (hz_dec kX10_add 71 rfl) (by decide) ?_
    refine hz_iload (pc := 139) 3 (hz_dec kX10_add 72 rfl) rfl ?_
    refine hz_mulN (pc := 141) (hz_dec kX10_add 73 rfl) ?_
    refine hz_iload (pc := 142) 0 (hz_dec kX10_add 74 rfl) rfl ?_
    refine hz_addN (pc := 144) (hz_dec kX10_add 75 rfl) ?_
    refine hz_iald (pc := 145) (j := (8 * p) + j) (hz_dec kX10_add 76 rfl) (va_up_self _ _ _) (by omega) (by omega) rfl (by omega) (by decide) ?_
    refine hz_eqi (pc := 146) hgp ?_
    refine hz_i2l (pc := 146) (hz_dec kX10_add 77 rfl) ?_
    refine hz_ldc2 (pc := 147) (v := (4294967295)) (hz_dec kX10_add 78 rfl) ks_X10_100 ?_
    refine hz_land (pc := 150) (hz_dec kX10_add 79 rfl) ?_
    refine hz_eql (pc := 151) (i_lo32 (f9 (8 * p + j))) ?_
    refine hz_ladd (pc := 151) (hz_dec kX10_add 80 rfl) ?_
    refine hz_eql (pc := 152) (lN_add _ _) ?_
    refine hz_ladd (pc := 152) (hz_dec kX10_add 81 rfl) ?_
    refine hz_eql (pc := 153) (lN_add _ _) ?_
    refine hz_lstore (pc := 153) (i := 7) (lo2 := [(7, .long (lN ((C) + ((un (fw j)) + (un (f9 (8 * p + j))))))), (9, .int (nI j)), (6, .int (nI k)), (5, .int (nI p)), (0, .ref t)]) (hz_dec kX10_add 82 rfl) (by decide) rfl ?_
    refine hz_aloadn (pc := 155) 4 (hz_dec kX10_add 83 rfl) rfl ?_
    refine hz_get (pc := 156) (hz_dec kX10_add 84 rfl) fo_X10_37 (hz_mne hT (by omega)) (by omega) (by omega) rfl ?_
    refine hz_bipush (pc := 159) (v := nI 8) (hz_dec kX10_add 85 rfl) (by decide) ?_
    refine hz_iload (pc := 161) 2 (hz_dec kX10_add 86 rfl) rfl ?_
    refine hz_mulN (pc := 163) (hz_dec kX10_add 87 rfl) ?_
    refine hz_iload (pc := 164) 1 (hz_dec kX10_add 88 rfl) rfl ?_
    refine hz_addN (pc := 166) (hz_dec kX10_add 89 rfl) ?_
    refine hz_lload (pc := 167) 0 (hz_dec kX10_add 90 rfl) rfl ?_
    refine hz_l2i (pc := 169) (hz_dec kX10_add 91 rfl) ?_
    refine hz_eqi (pc := 170) (lN_i _) ?_
    refine hz_iast (pc := 170) (j := (8 * k) + j) (hz_dec kX10_add 92 rfl) (va_up_self _ _ _) (by omega) (by omega) rfl (by omega) (by decide) ?_
    refine hz_lload (pc := 171) 0 (hz_dec kX10_add 93 rfl) rfl ?_
    refine hz_bipush (pc := 173) (v := nI 32) (hz_dec kX10_add 94 rfl) (by decide) ?_
    refine hz_lushr (pc := 175) (hz_dec kX10_add 95 rfl) ?_
    refine hz_eql (pc := 176) (wb_shr (by omega) (by decide)) ?_
    refine hz_lstore (pc := 176) (i := 7) (lo2 := [(7, .long (lN (((C) + ((un (fw j)) + (un (f9 (8 * p + j))))) / 2 ^ 32))), (9, .int (nI j)), (6, .int (nI k)), (5, .int (nI p)), (0, .ref t)]) (hz_dec kX10_add 96 rfl) (by decide) rfl ?_
    refine hz_mem (pc := 178) (M2 := (va_up M (t + 9) (.inl (0, 904, .inl (upd g ((8 * k) + j) ((nI ((C) + ((un (fw j)) + (un (f9 (8 * p + j)))))))))))) (bx_uu _ _ _ _) ?_
    refine hz_iinc (pc := 178) (i := 9) (w := nI j - 1) (lo2 := [(9, .int (nI j - 1)), (7, .long (lN (((C) + ((un (fw j)) + (un (f9 (8 * p + j))))) / 2 ^ 32))), (6, .int (nI k)), (5, .int (nI p)), (0, .ref t)]) 1 (hz_dec kX10_add 97 rfl) rfl (hz_m1 _) (by decide) rfl ?_
    refine hz_goto (pc := 181) (tgt := 102) (hz_dec kX10_add 98 rfl) (by decide) ?_
    refine hz_pick (pc := 102) [0, 1, 2, 3, 4] rfl ?_
    refine ih _ _ (by omega) ?_ (fun x hx => ?_) ?_
    · have q := un_lt (f9 (8 * p + j)); omega
    · simp only [upd]
      rw [if_neg (by omega)]
      exact hlo x hx
    · have q := ad_g (f := g) (fw := fw) (a := 8 * k + j) (b := j) (m := 8 - (j + 1)) (C := C) (y := yW (some p) f9 j) (Y := yB (some p) f9 (j + 1) (8 - (j + 1))) rfl hin rfl
      rw [show 8 - j = 8 - (j + 1) + 1 by omega, Nat.pow_succ, yB_st]
      exact q
set_option maxHeartbeats 4000000 in
set_option maxRecDepth 100000 in
theorem c_add_s0 {κ : hz_C} {z : Nat} {M : hz_M} {t tip : Nat} (hT : M t = trO t tip) (ht8 : 63 ≤ t) (htz : t + 13 ≤ z) {wb : Int32} {fw f9 : Nat → Int32} (h20 : M 20 = .inr (9, [.ref 21, .ref 22, .ref 23, .ref 24, .int wb])) (h24 : M 24 = .inl (0, 8, .inl fw)) (h9 : M (t + 9) = .inl (0, 904, .inl f9)) {k : Nat} (hk : k < 113)  {P : hz_P} (K : ∀ (g : Nat → Int32) (C : Nat), (∀ x, x < 8 * k → g x = f9 x) → bg g (8 * k) 8 + C * 4294967296 ^ 8 = bg fw 0 8 + yB none f9 0 8 → hz_W κ xX10_add 3 0 0 P 0 0 184 [(6, .int (nI k)), (0, .ref t)] [] z (va_up M (t + 9) (.inl (0, 904, .inl g)))) : ∀ j g C, j ≤ 8 → C ≤ 1 → (∀ x, x < 8 * k → g x = f9 x) → bg g (8 * k + j) (8 - j) + C * 4294967296 ^ (8 - j) = bg fw j (8 - j) + yB none f9 j (8 - j) → hz_W κ xX10_add 3 0 0 P 0 0 102 [(9, .int (nI j - 1)), (7, .long (lN C)), (6, .int (nI k)), (5, .int (-1)), (0, .ref t)] [] z (va_up M (t + 9) (.inl (0, 904, .inl g))) := by
  intro j
  induction j with
  | zero =>
    intro g C hj hC hlo hin
    refine hz_iload (pc := 102) 0 (hz_dec kX10_add 54 rfl) rfl ?_
    refine hz_if_lt (pc := 104) (tgt := 184) (hz_dec kX10_add 55 rfl) (by decide) (fun q1 => ?_) (fun q1 => ?_)
    · skip
      refine hz_pick (pc := 184) [2, 4] rfl ?_
      exact K g C hlo hin
    · skip
      exact absurd (by decide) q1
  | succ j ih =>
    intro g C hj hC hlo hin
    rw [nI_pred]
    have hu1 := un_lt (fw j)
    have hu2 := yW_lt none f9 j
    refine hz_iload (pc := 102) 0 (hz_dec kX10_add 54 rfl) rfl ?_
    refine hz_z_lt (pc := 104) (tgt := 184) (hz_dec kX10_add 55 rfl) (by decide) (by omega) ?_
    refine hz_lload (pc := 107) 1 (hz_dec kX10_add 56 rfl) rfl ?_
    refine hz_aloadn (pc := 109) 4 (hz_dec kX10_add 57 rfl) rfl ?_
    refine hz_get (pc := 110) (hz_dec kX10_add 58 rfl) fo_X10_50 (hz_mne hT (by omega)) (by omega) (by omega) rfl ?_
    refine hz_get (pc := 113) (hz_dec kX10_add 59 rfl) fo_X10_97 (hz_mne h20 (by omega)) (by decide) (by omega) rfl ?_
    refine hz_iload (pc := 116) 0 (hz_dec kX10_add 60 rfl) rfl ?_
    refine hz_iald (pc := 118) (j := j) (hz_dec kX10_add 61 rfl) (hz_mne h24 (by omega)) (by decide) (by omega) rfl (by omega) (by decide) ?_
    refine hz_i2l (pc := 119) (hz_dec kX10_add 62 rfl) ?_
    refine hz_ldc2 (pc := 120) (v := (4294967295)) (hz_dec kX10_add 63 rfl) ks_X10_100 ?_
    refine hz_land (pc := 123) (hz_dec kX10_add 64 rfl) ?_
    refine hz_eql (pc := 124) (i_lo32 (fw j)) ?_
    refine hz_iload (pc := 124) 3 (hz_dec kX10_add 65 rfl) rfl ?_
    refine hz_if_ge (pc := 126) (tgt := 133) (hz_dec kX10_add 66 rfl) (by decide) (fun q2 => ?_) (fun q2 => ?_)
    · skip
      exact absurd q2 (by decide)
    · skip
      refine hz_lconst (pc := 129) (v := lN 0) (hz_dec kX10_add 67 rfl) (by decide) ?_
      refine hz_goto (pc := 130) (tgt := 151) (hz_dec kX10_add 68 rfl) (by decide) ?_
      refine hz_ladd (pc := 151) (hz_dec kX10_add 80 rfl) ?_
      refine hz_eql (pc := 152) (lN_add _ _) ?_
      refine hz_ladd (pc := 152) (hz_dec kX10_add 81 rfl) ?_
      refine hz_eql (pc := 153) (lN_add _ _) ?_
      refine hz_lstore (pc := 153) (i := 7) (lo2 := [(7, .long (lN ((C) + ((un (fw j)) + (0))))), (9, .int (nI j)), (6, .int (nI k)), (5, .int (-1)), (0, .ref t)]) (hz_dec kX10_add 82 rfl) (by decide) rfl ?_
      refine hz_aloadn (pc := 155) 4 (hz_dec kX10_add 83 rfl) rfl ?_
      refine hz_get (pc := 156) (hz_dec kX10_add 84 rfl) fo_X10_37 (hz_mne hT (by omega)) (by omega) (by omega) rfl ?_
      refine hz_bipush (pc := 159) (v := nI 8) (hz_dec kX10_add 85 rfl) (by decide) ?_
      refine hz_iload (pc := 161) 2 (hz_dec kX10_add 86 rfl) rfl ?_
      refine hz_mulN (pc := 163) (hz_dec kX10_add 87 rfl) ?_
      refine hz_iload (pc := 164) 1 (hz_dec kX10_add 88 rfl) rfl ?_
      refine hz_addN (pc := 166) (hz_dec kX10_add 89 rfl) ?_
      refine hz_lload (pc := 167) 0 (hz_dec kX10_add 90 rfl) rfl ?_
      refine hz_l2i (pc := 169) (hz_dec kX10_add 91 rfl) ?_
      refine hz_eqi (pc := 170) (lN_i _) ?_
      refine hz_iast (pc := 170) (j := (8 * k) + j) (hz_dec kX10_add 92 rfl) (va_up_self _ _ _) (by omega) (by omega) rfl (by omega) (by decide) ?_
      refine hz_lload (pc := 171) 0 (hz_dec kX10_add 93 rfl) rfl ?_
      refine hz_bipush (pc := 173) (v := nI 32) (hz_dec kX10_add 94 rfl) (by decide) ?_
      refine hz_lushr (pc := 175) (hz_dec kX10_add 95 rfl) ?_
      refine hz_eql (pc := 176) (wb_shr (by omega) (by decide)) ?_
      refine hz_lstore (pc := 176) (i := 7) (lo2 := [(7, .long (lN (((C) + ((un (fw j)) + (0))) / 2 ^ 32))), (9, .int (nI j)), (6, .int (nI k)), (5, .int (-1)), (0, .ref t)]) (hz_dec kX10_add 96 rfl) (by decide) rfl ?_
      refine hz_mem (pc := 178) (M2 := (va_up M (t + 9) (.inl (0, 904, .inl (upd g ((8 * k) + j) ((nI ((C) + ((un (fw j)) + (0)))))))))) (bx_uu _ _ _ _) ?_
      refine hz_iinc (pc := 178) (i := 9) (w := nI j - 1) (lo2 := [(9, .int (nI j - 1)), (7, .long (lN (((C) + ((un (fw j)) + (0))) / 2 ^ 32))), (6, .int (nI k)), (5, .int (-1)), (0, .ref t)]) 1 (hz_dec kX10_add 97 rfl) rfl (hz_m1 _) (by decide) rfl ?_
      refine hz_goto (pc := 181) (tgt := 102) (hz_dec kX10_add 98 rfl) (by decide) ?_
      refine hz_pick (pc := 102) [0, 1, 2, 3, 4] rfl ?_
      refine ih _ _ (by omega) (by omega) (fun x hx => ?_) ?_
      · simp only [upd]
        rw [if_neg (by omega)]
        exact hlo x hx
      · have q := ad_g (f := g) (fw := fw) (a := 8 * k + j) (b := j) (m := 8 - (j + 1)) (C := C) (y := 0) (Y := yB none f9 (j + 1) (8 - (j + 1))) rfl hin rfl
        rw [show 8 - j = 8 - (j + 1) + 1 by omega, Nat.pow_succ, yB_st]
        exact q
