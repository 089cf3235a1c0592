/-! what a transaction pays; how its spending is judged -/
def paK (t : by_L) : Nat → Option Int64
  | 0 => some 0
  | k + 1 => match paK t k with
    | none => none
    | some s => if amB (bn_num (lf t) (ouA t k) 8) then some (s + bn_num (lf t) (ouA t k) 8) else none
def paS (t : by_L) : Option Int64 := paK t (txO t)
def paV (p : Option Int64) : Int64 := match p with
  | none => -1
  | some s => s
theorem paK_f {t : by_L} {k : Nat} (h : amB (bn_num (lf t) (ouA t k) 8) = false) : ∀ n, k < n → paK t n = none := by
  intro n
  induction n with
  | zero => intro q; omega
  | succ n ih =>
    intro q
    simp only [paK]
    rcases Nat.lt_or_ge k n with r | r
    · rw [ih r]
    · have e : k = n := by omega
      subst e
      cases paK t k with
      | none => rfl
      | some s => simp only [h]; rfl
theorem paK_t {t : by_L} {k : Nat} {s : Int64} (hs : paK t k = some s) (h : amB (bn_num (lf t) (ouA t k) 8) = true) : paK t (k + 1) = some (s + bn_num (lf t) (ouA t k) 8) := by
  simp only [paK, hs, h]
  rfl
theorem paK_nn {t : by_L} : ∀ k s, k ≤ 4 → paK t k = some s → 0 ≤ s.toInt ∧ s.toInt ≤ k * 1099511627776 := by
  intro k
  induction k with
  | zero => intro s _ h; cases h; decide
  | succ k ih =>
    intro s hk h
    simp only [paK] at h
    cases hp : paK t k with
    | none => rw [hp] at h; cases h
    | some s0 =>
      rw [hp] at h
      by_cases c : amB (bn_num (lf t) (ouA t k) 8) = true
      · simp only [if_pos c] at h
        have e := Option.some.inj h
        subst e
        obtain ⟨q1, q2⟩ := ih s0 (by omega) hp
        obtain ⟨r1, r2⟩ := of_decide_eq_true c
        rw [Int64.le_iff_toInt_le] at r1 r2
        rw [show (1 : Int64).toInt = 1 from rfl] at r1
        rw [show (1099511627776 : Int64).toInt = 1099511627776 from rfl] at r2
        rw [Int64.toInt_add, Int.bmod_eq_of_le (by omega) (by omega)]
        omega
      · simp only [if_neg c] at h
        cases h
theorem paV_neg {t : by_L} (h : txO t ≤ 4) : (paV (paS t) < 0 ↔ paS t = none) := by
  unfold paS
  cases hp : paK t (txO t) with
  | none => exact ⟨fun _ => rfl, fun _ => by decide⟩
  | some s =>
    refine ⟨fun q => ?_, fun q => by cases q⟩
    exfalso
    obtain ⟨q1, q2⟩ := paK_nn _ _ h hp
    have q3 : s < 0 := q
    rw [Int64.lt_iff_toInt_lt] at q3
    rw [show (0 : Int64).toInt = 0 from rfl] at q3
    omega
/-- input k is one of those before it -/
def dupF (f g : Nat → Int32) (a b : Nat) : Nat → Bool
  | 0 => false
  | k + 1 => dupF f g a b k || smB f g (a + 2 + 73 * k) b 9
theorem dupF_t {f g : Nat → Int32} {a b i : Nat} (h : smB f g (a + 2 + 73 * i) b 9 = true) : ∀ n, i < n → dupF f g a b n = true := by
  intro n
  induction n with
  | zero => intro q; omega
  | succ n ih =>
    intro q
    simp only [dupF]
    rcases Nat.lt_or_ge i n with r | r
    · rw [ih r]; rfl
    · rw [show n = i by omega, h, Bool.or_true]
theorem dupF_f {f g : Nat → Int32} {a b : Nat} : ∀ n, (∀ j, j < n → smB f g (a + 2 + 73 * j) b 9 = false) → dupF f g a b n = false := by
  intro n
  induction n with
  | zero => intro _; rfl
  | succ n ih =>
    intro h
    simp only [dupF, ih (fun j hj => h j (by omega)), h n (by omega)]
    rfl
theorem smB_c {f g f2 g2 : Nat → Int32} {a b a2 b2 n : Nat} (h : ∀ j, j < n → f (a + j) = f2 (a2 + j)) (h2 : ∀ j, j < n → g (b + j) = g2 (b2 + j)) : smB f g a b n = smB f2 g2 a2 b2 n := by
  unfold smB
  apply decide_eq_decide.mpr
  constructor
  · intro q j hj
    rw [← h j hj, ← h2 j hj, q j hj]
  · intro q j hj
    rw [h j hj, h2 j hj, q j hj]
theorem smB_s {f g : Nat → Int32} {a b n : Nat} : smB f g a b n = smB g f b a n := by
  unfold smB
  apply decide_eq_decide.mpr
  exact ⟨fun q j hj => (q j hj).symm, fun q j hj => (q j hj).symm⟩
theorem dupF_c {f g f2 g2 : Nat → Int32} {a b a2 b2 : Nat} : ∀ n, (∀ j, j < 2 + 73 * n → f (a + j) = f2 (a2 + j)) → (∀ j, j < 9 → g (b + j) = g2 (b2 + j)) → dupF f g a b n = dupF f2 g2 a2 b2 n := by
  intro n
  induction n with
  | zero => intro _ _; rfl
  | succ n ih =>
    intro h h2
    simp only [dupF]
    rw [ih (fun j hj => h j (by omega)) h2, smB_c (f2 := f2) (a2 := a2 + 2 + 73 * n) (fun j hj => by rw [show a + 2 + 73 * n + j = a + (2 + 73 * n + j) by omega, show a2 + 2 + 73 * n + j = a2 + (2 + 73 * n + j) by omega]; exact h _ (by omega)) h2]
def dupI (t : by_L) (k : Nat) : Bool := dupF (lf t) (lf t) 0 (2 + 73 * k) k
/-- the digits that a transaction's signatures are of -/
def dgT (t : by_L) : Nat → Nat := dgA (sh_h (sgB (lf t) 0 (txI t)) 0 t.length 0)
def coUn (c : co_C) (h : Nat) : Bool := c.2.2.2.2.2 && decide (h < c.2.2.2.2.1 + 4)
def jIn (cs : List co_C) (t : by_L) (h : Nat) : Nat → Nat → Int64 → Nat × Int64
  | 0, _, acc => (0, acc)
  | m + 1, k, acc =>
    if coF cs (inId t k) (inPl t k) < cs.length then
      if coUn (coL cs (coF cs (inId t k) (inPl t k))) h = true ∨ dupI t k = true then (10, 0)
      else if sgA (lf t) (2 + 73 * k + 9) (dgT t) = (coL cs (coF cs (inId t k) (inPl t k))).2.2.2.1 then jIn cs t h m (k + 1) (acc + (coL cs (coF cs (inId t k) (inPl t k))).2.2.1) else (11, 0)
    else (10, 0)
/-- the verdict on a transaction that spends, and what is left of it -/
def jSp (cs : List co_C) (t : by_L) (h : Nat) : Nat × Int64 :=
  if (jIn cs t h (txI t) 0 0).1 = 0 then
    if paS t = none ∨ (jIn cs t h (txI t) 0 0).2 < paV (paS t) then (12, 0)
    else if coHs cs (idS t) = true then (13, 0) else (0, (jIn cs t h (txI t) 0 0).2 - paV (paS t))
  else ((jIn cs t h (txI t) 0 0).1, 0)
theorem jIn_10 {cs : List co_C} {t : by_L} {h m k : Nat} {acc : Int64} (q : ¬ coF cs (inId t k) (inPl t k) < cs.length ∨ coUn (coL cs (coF cs (inId t k) (inPl t k))) h = true ∨ dupI t k = true) : jIn cs t h (m + 1) k acc = (10, 0) := by
  simp only [jIn]
  by_cases c : coF cs (inId t k) (inPl t k) < cs.length
  · rw [if_pos c, if_pos (q.resolve_left (fun x => x c))]
  · rw [if_neg c]
theorem jIn_11 {cs : List co_C} {t : by_L} {h m k : Nat} {acc : Int64} (c : coF cs (inId t k) (inPl t k) < cs.length) (u : coUn (coL cs (coF cs (inId t k) (inPl t k))) h = false) (d : dupI t k = false) (s : ¬ sgA (lf t) (2 + 73 * k + 9) (dgT t) = (coL cs (coF cs (inId t k) (inPl t k))).2.2.2.1) : jIn cs t h (m + 1) k acc = (11, 0) := by
  simp only [jIn]
  rw [if_pos c, if_neg (by rw [u, d]; simp), if_neg s]
theorem jIn_st {cs : List co_C} {t : by_L} {h m k : Nat} {acc : Int64} (c : coF cs (inId t k) (inPl t k) < cs.length) (u : coUn (coL cs (coF cs (inId t k) (inPl t k))) h = false) (d : dupI t k = false) (s : sgA (lf t) (2 + 73 * k + 9) (dgT t) = (coL cs (coF cs (inId t k) (inPl t k))).2.2.2.1) : jIn cs t h (m + 1) k acc = jIn cs t h m (k + 1) (acc + (coL cs (coF cs (inId t k) (inPl t k))).2.2.1) := by
  rw [jIn, if_pos c, if_neg (by rw [u, d]; simp), if_pos s]
theorem coUn_f {c : co_C} {h : Nat} (q : ¬ h < c.2.2.2.2.1 + 4) : coUn c h = false := by unfold coUn; rw [decide_eq_false q, Bool.and_false]
theorem dgA_le (h : Int32) (j : Nat) : dgA h j ≤ 15 := by
  unfold dgA
  have q := dgC_le h 6
  split
  · have r := dgD_lt h j
    omega
  · split <;> omega
theorem hz_b0 {b : Bool} (h : hz_b b = 0) : b = false := by
  cases b
  · rfl
  · exact absurd h (by decide)
theorem hz_b1 {b : Bool} (h : ¬ hz_b b = 0) : b = true := by
  cases b
  · exact absurd rfl h
  · rfl
set_option maxHeartbeats 4000000 in
set_option maxRecDepth 100000 in
theorem c_paid_l {κ : hz_C} {z : Nat} {M : hz_M} {b n at_ : Nat} {f : Nat → Int32} {t : by_L} (hB : M b = .inl (1, n, .inl f)) (hb8 : 8 ≤ b) (hbz : b < z) (hn : n < 2 ^ 29) (ht : isA f at_ t) (hat : at_ + t.length ≤ n) (hW : txW t) : ∀ k i s, k = txO t - i → i ≤ txO t → paK t i = some s → hz_W κ xX0_paidBy 1 0 0 (hz_ex (some (.long (paV (paS t)))) z M) 0 0 21 [(6, .int (nI i)), (5, .int (nI (txO t))), (4, .int (nI (txI t))), (2, .long s), (0, .ref b), (1, .int (nI at_))] [] z M := by
  intro k
  induction k using Nat.strongRecOn with
  | ind k ih =>
  intro i s hk hi hs
  obtain ⟨w1, w2, w3, w4, w5⟩ := txW_sz hW
  refine hz_iload (pc := 21) 0 (hz_dec kX0_paidBy 14 rfl) rfl ?_
  refine hz_iload (pc := 23) 1 (hz_dec kX0_paidBy 15 rfl) rfl ?_
  refine hz_n_ge (pc := 25) (tgt := 75) (hz_dec kX0_paidBy 16 rfl) (by decide) (by omega) (by omega) (fun h0 => ?_) (fun h0 => ?_)
  · skip
    have e : i = txO t := by omega
    subst e
    refine hz_lloadn (pc := 75) 3 (hz_dec kX0_paidBy 41 rfl) rfl ?_
    exact hz_lret (pc := 76) (hz_dec kX0_paidBy 42 rfl) rfl ⟨by unfold paS; rw [hs]; rfl, rfl, rfl⟩
  · skip
    have ho : ouA t i + 16 ≤ t.length := by unfold ouA; omega
    refine hz_aloadn (pc := 28) 4 (hz_dec kX0_paidBy 17 rfl) rfl ?_
    refine hz_iloadn (pc := 29) 5 (hz_dec kX0_paidBy 18 rfl) rfl ?_
    refine hz_iload (pc := 30) 2 (hz_dec kX0_paidBy 19 rfl) rfl ?_
    refine hz_iload (pc := 32) 0 (hz_dec kX0_paidBy 20 rfl) rfl ?_
    refine hz_xS (pc := 34) (As := [.int (nI at_), .int (nI (txI t)), .int (nI i)]) (st := [.ref b]) (hz_dec kX0_paidBy 21 rfl) co_X0_25 sc_X0_outputAt (c_outputAt (by omega)) rfl (by decide) ⟨Nat.le_refl _, Nat.le_refl _⟩ (Nat.le_of_ble_eq_true rfl) rfl ?_
    refine hz_eqi (pc := 37) (show _ = nI (at_ + ouA t i) by unfold ouA; congr 1; omega) ?_
    refine hz_bipush (pc := 37) (v := nI 8) (hz_dec kX0_paidBy 22 rfl) (by decide) ?_
    refine hz_xS (pc := 39) (As := [.ref b, .int (nI (at_ + ouA t i)), .int (nI 8)]) (st := []) (hz_dec kX0_paidBy 23 rfl) co_X0_29 sc_X0_number (c_number hB hb8 hbz (by omega) (by omega)) rfl (by decide) ⟨Nat.le_refl _, Nat.le_refl _⟩ (Nat.le_of_ble_eq_true rfl) rfl ?_
    refine hz_eql (pc := 42) (num_of ht (by omega)) ?_
    refine hz_lstore (pc := 42) (i := 7) (lo2 := [(7, .long (bn_num (lf t) (ouA t i) 8)), (6, .int (nI i)), (5, .int (nI (txO t))), (4, .int (nI (txI t))), (2, .long s), (0, .ref b), (1, .int (nI at_))]) (hz_dec kX0_paidBy 24 rfl) (by decide) rfl ?_
    refine hz_lload (pc := 44) 0 (hz_dec kX0_paidBy 25 rfl) rfl ?_
    refine hz_lconst (pc := 46) (v := 1) (hz_dec kX0_paidBy 26 rfl) (by decide) ?_
    refine hz_lcmp (pc := 47) (hz_dec kX0_paidBy 27 rfl) ?_
    refine hz_if_lt (pc := 48) (tgt := 60) (hz_dec kX0_paidBy 28 rfl) (by decide) (fun h1 => ?_) (fun h1 => ?_)
    · skip
      refine hz_ldc2 (pc := 60) (v := (-1)) (hz_dec kX0_paidBy 33 rfl) ks_X0_35 ?_
      refine hz_lret (pc := 63) (hz_dec kX0_paidBy 34 rfl) rfl ⟨?_, rfl, rfl⟩
      unfold paS
      rw [paK_f (k := i) (decide_eq_false (fun q => Int64.not_le.mpr ((lg_cmp_lt _ _).mp h1) q.1)) _ (by omega)]
      rfl
    · skip
      refine hz_lload (pc := 51) 0 (hz_dec kX0_paidBy 29 rfl) rfl ?_
      refine hz_ldc2 (pc := 53) (v := (1099511627776)) (hz_dec kX0_paidBy 30 rfl) ks_X0_33 ?_
      refine hz_lcmp (pc := 56) (hz_dec kX0_paidBy 31 rfl) ?_
      refine hz_if_le (pc := 57) (tgt := 64) (hz_dec kX0_paidBy 32 rfl) (by decide) (fun h2 => ?_) (fun h2 => ?_)
      · skip
        refine hz_lloadn (pc := 64) 4 (hz_dec kX0_paidBy 35 rfl) rfl ?_
        refine hz_lload (pc := 65) 0 (hz_dec kX0_paidBy 36 rfl) rfl ?_
        refine hz_ladd (pc := 67) (hz_dec kX0_paidBy 37 rfl) ?_
        refine hz_lstoren (pc := 68) (i := 2) (lo2 := [(2, .long ((s) + (bn_num (lf t) (ouA t i) 8))), (7, .long (bn_num (lf t) (ouA t i) 8)), (6, .int (nI i)), (5, .int (nI (txO t))), (4, .int (nI (txI t))), (0, .ref b), (1, .int (nI at_))]) (hz_dec kX0_paidBy 38 rfl) rfl (by decide) rfl ?_
        refine hz_incN (pc := 69) (i := 6) (lo2 := [(6, .int (nI (i + 1))), (2, .long ((s) + (bn_num (lf t) (ouA t i) 8))), (7, .long (bn_num (lf t) (ouA t i) 8)), (5, .int (nI (txO t))), (4, .int (nI (txI t))), (0, .ref b), (1, .int (nI at_))]) 2 (hz_dec kX0_paidBy 39 rfl) rfl (by decide) rfl ?_
        refine hz_goto (pc := 72) (tgt := 21) (hz_dec kX0_paidBy 40 rfl) (by decide) ?_
        refine hz_pick (pc := 21) [0, 3, 4, 1, 5, 6] rfl ?_
        exact ih (txO t - (i + 1)) (by omega) (i + 1) _ rfl (by omega) (paK_t hs (decide_eq_true ⟨(lg_cmp_ge _ _).mp (Int32.not_lt.mp h1), (lg_cmp_le _ _).mp h2⟩))
      · skip
        refine hz_ldc2 (pc := 60) (v := (-1)) (hz_dec kX0_paidBy 33 rfl) ks_X0_35 ?_
        refine hz_lret (pc := 63) (hz_dec kX0_paidBy 34 rfl) rfl ⟨?_, rfl, rfl⟩
        unfold paS
        rw [paK_f (k := i) (decide_eq_false (fun q => h2 ((lg_cmp_le _ _).mpr q.2))) _ (by omega)]
        rfl
set_option maxHeartbeats 4000000 in
set_option maxRecDepth 100000 in
theorem c_paid {κ : hz_C} {z : Nat} {M : hz_M} {b n at_ : Nat} {f : Nat → Int32} {t : by_L} (hB : M b = .inl (1, n, .inl f)) (hb8 : 8 ≤ b) (hbz : b < z) (hn : n < 2 ^ 29) (ht : isA f at_ t) (hat : at_ + t.length ≤ n) (hW : txW t) : hz_Mt κ xX0_paidBy 1 0 0 [.ref b, .int (nI at_)] z M (hz_ex (some (.long (paV (paS t)))) z M) := by
  refine hz_ent (lo := [(0, .ref b), (1, .int (nI at_))]) (by decide) (Nat.le_of_ble_eq_true rfl) rfl ?_
  obtain ⟨w1, w2, w3, w4, w5⟩ := txW_sz hW
  refine hz_lconst (pc := 0) (v := 0) (hz_dec kX0_paidBy 0 rfl) (by decide) ?_
  refine hz_lstoren (pc := 1) (i := 2) (lo2 := [(2, .long 0), (0, .ref b), (1, .int (nI at_))]) (hz_dec kX0_paidBy 1 rfl) rfl (by decide) rfl ?_
  refine hz_aloadn (pc := 2) 1 (hz_dec kX0_paidBy 2 rfl) rfl ?_
  refine hz_iloadn (pc := 3) 2 (hz_dec kX0_paidBy 3 rfl) rfl ?_
  refine hz_xS (pc := 4) (As := [.ref b, .int (nI at_)]) (st := []) (hz_dec kX0_paidBy 4 rfl) co_X0_21 sc_X0_one (c_one hB hb8 hbz (by omega) (by omega)) rfl (by decide) ⟨Nat.le_refl _, Nat.le_refl _⟩ (Nat.le_of_ble_eq_true rfl) rfl ?_
  refine hz_eqi (pc := 7) (show _ = nI (txI t) by rw [show at_ = at_ + 0 from rfl, ht 0 (by omega)]; rfl) ?_
  refine hz_istore (pc := 7) (i := 4) (lo2 := [(4, .int (nI (txI t))), (2, .long 0), (0, .ref b), (1, .int (nI at_))]) (hz_dec kX0_paidBy 5 rfl) (by decide) rfl ?_
  refine hz_aloadn (pc := 9) 2 (hz_dec kX0_paidBy 6 rfl) rfl ?_
  refine hz_iloadn (pc := 10) 3 (hz_dec kX0_paidBy 7 rfl) rfl ?_
  refine hz_iconst (pc := 11) (v := nI 1) (hz_dec kX0_paidBy 8 rfl) (by decide) ?_
  refine hz_addN (pc := 12) (hz_dec kX0_paidBy 9 rfl) ?_
  refine hz_xS (pc := 13) (As := [.ref b, .int (nI (at_ + 1))]) (st := []) (hz_dec kX0_paidBy 10 rfl) co_X0_21 sc_X0_one (c_one hB hb8 hbz (by omega) (by omega)) rfl (by decide) ⟨Nat.le_refl _, Nat.le_refl _⟩ (Nat.le_of_ble_eq_true rfl) rfl ?_
  refine hz_eqi (pc := 16) (show _ = nI (txO t) by rw [ht 1 (by omega)]; rfl) ?_
  refine hz_istore (pc := 16) (i := 5) (lo2 := [(5, .int (nI (txO t))), (4, .int (nI (txI t))), (2, .long 0), (0, .ref b), (1, .int (nI at_))]) (hz_dec kX0_paidBy 11 rfl) (by decide) rfl ?_
  refine hz_iconst (pc := 18) (v := nI 0) (hz_dec kX0_paidBy 12 rfl) (by decide) ?_
  refine hz_istore (pc := 19) (i := 6) (lo2 := [(6, .int (nI 0)), (5, .int (nI (txO t))), (4, .int (nI (txI t))), (2, .long 0), (0, .ref b), (1, .int (nI at_))]) (hz_dec kX0_paidBy 13 rfl) (by decide) rfl ?_
  refine hz_pick (pc := 21) [0, 1, 2, 3, 4, 5] rfl ?_
  exact c_paid_l hB hb8 hbz hn ht hat hW (txO t) 0 0 rfl (by omega) rfl
set_option maxHeartbeats 4000000 in
set_option maxRecDepth 100000 in
theorem c_hasI_l {κ : hz_C} {z : Nat} {M : hz_M} {b n at_ : Nat} {f : Nat → Int32} (hB : M b = .inl (1, n, .inl f)) (hb8 : 8 ≤ b) (hbz : b < z) (hn : n < 2 ^ 29) {b2 n2 fr : Nat} {g : Nat → Int32} (hB2 : M b2 = .inl (1, n2, .inl g)) (hb82 : 8 ≤ b2) (hbz2 : b2 < z) (hn2 : n2 < 2 ^ 29) {m : Nat} (hm : at_ + 2 + 73 * m ≤ n) (hf : fr + 9 ≤ n2) : ∀ k i, k = m - i → i ≤ m → (∀ j, j < i → smB f g (at_ + 2 + 73 * j) fr 9 = false) → hz_W κ xX3_hasInput 1 0 0 (hz_ex (some (.int (hz_b (dupF f g at_ fr m)))) z M) 0 0 3 [(5, .int (nI i)), (0, .ref b), (1, .int (nI at_)), (2, .int (nI m)), (3, .ref b2), (4, .int (nI fr))] [] z M := by
  intro k
  induction k using Nat.strongRecOn with
  | ind k ih =>
  intro i hk hi hs
  refine hz_iload (pc := 3) 0 (hz_dec kX3_hasInput 2 rfl) rfl ?_
  refine hz_iloadn (pc := 5) 3 (hz_dec kX3_hasInput 3 rfl) rfl ?_
  refine hz_n_ge (pc := 6) (tgt := 35) (hz_dec kX3_hasInput 4 rfl) (by decide) (by omega) (by omega) (fun h1 => ?_) (fun h1 => ?_)
  · skip
    have e : i = m := by omega
    subst e
    refine hz_iconst (pc := 35) (v := nI 0) (hz_dec kX3_hasInput 18 rfl) (by decide) ?_
    exact hz_zret (pc := 36) (hz_dec kX3_hasInput 19 rfl) rfl rfl ⟨by rw [dupF_f _ hs]; rfl, rfl, rfl⟩
  · skip
    refine hz_aloadn (pc := 9) 1 (hz_dec kX3_hasInput 5 rfl) rfl ?_
    refine hz_iloadn (pc := 10) 2 (hz_dec kX3_hasInput 6 rfl) rfl ?_
    refine hz_iload (pc := 11) 0 (hz_dec kX3_hasInput 7 rfl) rfl ?_
    refine hz_xS (pc := 13) (As := [.int (nI at_), .int (nI i)]) (st := [.ref b]) (hz_dec kX3_hasInput 8 rfl) co_X3_167 sc_X0_inputAt (c_inputAt) rfl (by decide) ⟨Nat.le_refl _, Nat.le_refl _⟩ (Nat.le_of_ble_eq_true rfl) rfl ?_
    refine hz_aloadn (pc := 16) 4 (hz_dec kX3_hasInput 9 rfl) rfl ?_
    refine hz_iload (pc := 17) 5 (hz_dec kX3_hasInput 10 rfl) rfl ?_
    refine hz_bipush (pc := 19) (v := nI 9) (hz_dec kX3_hasInput 11 rfl) (by decide) ?_
    refine hz_xS (pc := 21) (As := [.ref b, .int (nI (at_ + 2 + i * 73)), .ref b2, .int (nI fr), .int (nI 9)]) (st := []) (hz_dec kX3_hasInput 12 rfl) co_X3_107 sc_X0_same (c_same hB hb8 hbz (by omega) hB2 hb82 hbz2 (by omega) (by omega) (by omega)) rfl (by decide) ⟨Nat.le_refl _, Nat.le_refl _⟩ (Nat.le_of_ble_eq_true rfl) rfl ?_
    refine hz_eqi (pc := 24) (show _ = hz_b (smB f g (at_ + 2 + 73 * i) fr 9) by rw [smB_sm, Nat.mul_comm]) ?_
    refine hz_if_eq (pc := 24) (tgt := 29) (hz_dec kX3_hasInput 13 rfl) (by decide) (fun h2 => ?_) (fun h2 => ?_)
    · skip
      refine hz_incN (pc := 29) (i := 5) (lo2 := [(5, .int (nI (i + 1))), (0, .ref b), (1, .int (nI at_)), (2, .int (nI m)), (3, .ref b2), (4, .int (nI fr))]) 0 (hz_dec kX3_hasInput 16 rfl) rfl (by decide) rfl ?_
      refine hz_goto (pc := 32) (tgt := 3) (hz_dec kX3_hasInput 17 rfl) (by decide) ?_
      refine hz_pick (pc := 3) [0, 1, 2, 3, 4, 5] rfl ?_
      refine ih (m - (i + 1)) (by omega) (i + 1) rfl (by omega) (fun j hj => ?_)
      rcases (show j = i ∨ j < i by omega) with rfl | c
      · exact hz_b0 h2
      · exact hs j c
    · skip
      refine hz_iconst (pc := 27) (v := nI 1) (hz_dec kX3_hasInput 14 rfl) (by decide) ?_
      exact hz_zret (pc := 28) (hz_dec kX3_hasInput 15 rfl) rfl rfl ⟨by rw [dupF_t (hz_b1 h2) m h1]; rfl, rfl, rfl⟩
set_option maxHeartbeats 4000000 in
set_option maxRecDepth 100000 in
theorem c_hasI {κ : hz_C} {z : Nat} {M : hz_M} {b n at_ : Nat} {f : Nat → Int32} (hB : M b = .inl (1, n, .inl f)) (hb8 : 8 ≤ b) (hbz : b < z) (hn : n < 2 ^ 29) {b2 n2 fr : Nat} {g : Nat → Int32} (hB2 : M b2 = .inl (1, n2, .inl g)) (hb82 : 8 ≤ b2) (hbz2 : b2 < z) (hn2 : n2 < 2 ^ 29) {m : Nat} (hm : at_ + 2 + 73 * m ≤ n) (hf : fr + 9 ≤ n2) : hz_Mt κ xX3_hasInput 1 0 0 [.ref b, .int (nI at_), .int (nI m), .ref b2, .int (nI fr)] z M (hz_ex (some (.int (hz_b (dupF f g at_ fr m)))) z M) := by
  refine hz_ent (lo := [(0, .ref b), (1, .int (nI at_)), (2, .int (nI m)), (3, .ref b2), (4, .int (nI fr))]) (by decide) (Nat.le_of_ble_eq_true rfl) rfl ?_
  refine hz_iconst (pc := 0) (v := nI 0) (hz_dec kX3_hasInput 0 rfl) (by decide) ?_
  refine hz_istore (pc := 1) (i := 5) (lo2 := [(5, .int (nI 0)), (0, .ref b), (1, .int (nI at_)), (2, .int (nI m)), (3, .ref b2), (4, .int (nI fr))]) (hz_dec kX3_hasInput 1 rfl) (by decide) rfl ?_
  refine hz_pick (pc := 3) [0, 1, 2, 3, 4, 5] rfl ?_
  exact c_hasI_l hB hb8 hbz hn hB2 hb82 hbz2 hn2 hm hf m 0 rfl (by omega) (fun j hj => absurd hj (by omega))
