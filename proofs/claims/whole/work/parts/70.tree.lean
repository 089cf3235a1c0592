/-! blocks that are stored: the pure side -/
/-- bytes, the one before, height, total -/
abbrev bk_B : Type := by_L × Option Nat × Nat × Nat
def bkL (bl : List bk_B) (k : Nat) : bk_B := bl.getD k ([], none, 0, 0)
def bBy (bl : List bk_B) (k : Nat) : by_L := (bkL bl k).1
def bTo (bl : List bk_B) (k : Nat) : Nat := (bkL bl k).2.2.2
/-- the one before, height, time, bits -/
abbrev en_E : Type := Option Nat × Nat × Int32 × Int32
def enL (en : List en_E) (k : Nat) : en_E := en.getD k (none, 0, 0, 0)
def eP (en : List en_E) (k : Nat) : Option Nat := (enL en k).1
def eH (en : List en_E) (k : Nat) : Nat := (enL en k).2.1
def eT (en : List en_E) (k : Nat) : Int32 := (enL en k).2.2.1
def eB (en : List en_E) (k : Nat) : Int32 := (enL en k).2.2.2
def enOf (b : bk_B) : en_E := (b.2.1, b.2.2.1, bn_int (lf b.1) 64, bn_int (lf b.1) 68)
def enB (bl : List bk_B) : List en_E := bl.map enOf
def pvI (p : Option Nat) : Int32 := match p with
  | none => -1
  | some q => nI q
/-- i steps back -/
def upE (en : List en_E) (k : Nat) : Nat → Nat
  | 0 => k
  | i + 1 => (eP en (upE en k i)).getD 0
/-- the block at a height on the way to k -/
def chE (en : List en_E) (k h : Nat) : Nat := upE en k (eH en k - h)
def wfE (en : List en_E) : Prop := ∀ k, k < en.length → (∀ p, eP en k = some p → p < k ∧ eH en k = eH en p + 1) ∧ (eP en k = none → k = 0 ∧ eH en k = 0) ∧ ¬ eT en k < 0 ∧ tgR (eB en k) = true
theorem wfE.up {en : List en_E} (h : wfE en) {k : Nat} (hk : k < en.length) : ∀ i, i ≤ eH en k → upE en k i + i ≤ k ∧ eH en (upE en k i) + i = eH en k := by
  intro i
  induction i with
  | zero => intro _; exact ⟨Nat.le_refl _, rfl⟩
  | succ i ih =>
    intro hi
    obtain ⟨a, b⟩ := ih (by omega)
    have w := h (upE en k i) (by omega)
    simp only [upE]
    cases hp : eP en (upE en k i) with
    | none => have q := (w.2.1 hp).2; omega
    | some p =>
      have q := w.1 p hp
      simp only [Option.getD_some]
      omega
theorem wfE.pv {en : List en_E} (h : wfE en) {k : Nat} (hk : k < en.length) {i : Nat} (hi : i < eH en k) : eP en (upE en k i) = some (upE en k (i + 1)) := by
  obtain ⟨a, b⟩ := h.up hk i (by omega)
  have w := h (upE en k i) (by omega)
  simp only [upE]
  cases hp : eP en (upE en k i) with
  | none => have q := (w.2.1 hp).2; omega
  | some p => rfl
theorem wfE.top {en : List en_E} (h : wfE en) {k : Nat} (hk : k < en.length) : upE en k (eH en k) = 0 ∧ eP en (upE en k (eH en k)) = none := by
  obtain ⟨a, b⟩ := h.up hk (eH en k) (Nat.le_refl _)
  have w := h (upE en k (eH en k)) (by omega)
  cases hp : eP en (upE en k (eH en k)) with
  | none => exact ⟨(w.2.1 hp).1, rfl⟩
  | some p => have q := (w.1 p hp).2; omega
theorem wfE.ht {en : List en_E} (h : wfE en) {k : Nat} (hk : k < en.length) : eH en k ≤ k := by
  obtain ⟨a, b⟩ := h.up hk (eH en k) (Nat.le_refl _)
  omega
theorem wfE.lt {en : List en_E} (h : wfE en) {k : Nat} (hk : k < en.length) {i j : Nat} (hij : i < j) (hj : j ≤ eH en k) : upE en k j < upE en k i := by
  induction j with
  | zero => omega
  | succ j ih =>
    obtain ⟨a, b⟩ := h.up hk j (by omega)
    have e := h.pv hk (i := j) (by omega)
    have w := (h (upE en k j) (by omega)).1 _ e
    rcases (show i = j ∨ i < j by omega) with rfl | c
    · exact w.1
    · have q := ih c (by omega)
      omega
/-- k is on the way to the tip -/
def onC (en : List en_E) (tip k : Nat) : Bool := decide (eH en k ≤ eH en tip ∧ chE en tip (eH en k) = k)
theorem onC_t {en : List en_E} (h : wfE en) {tip : Nat} (ht : tip < en.length) {i : Nat} (hi : i ≤ eH en tip) : onC en tip (upE en tip i) = true := by
  obtain ⟨a, b⟩ := h.up ht i hi
  refine decide_eq_true ⟨by omega, ?_⟩
  unfold chE
  rw [show eH en tip - eH en (upE en tip i) = i by omega]
theorem onC_f {en : List en_E} (h : wfE en) {tip : Nat} (ht : tip < en.length) {k : Nat} (hk : ∀ i, i ≤ eH en tip → ¬ upE en tip i = k) : onC en tip k = false := by
  refine decide_eq_false (fun q => ?_)
  exact hk (eH en tip - eH en k) (by omega) q.2
/-- times in order: one more -/
def insF (t : Int32) : Nat → (Nat → Int32) → Nat → Int32
  | 0, f => upd f 0 t
  | i + 1, f => if t < f i then insF t i (upd f (i + 1) (f i)) else upd f (i + 1) t
theorem insF_out (t : Int32) : ∀ i (f : Nat → Int32) j, i < j → insF t i f j = f j := by
  intro i
  induction i with
  | zero => intro f j hj; simp only [insF, upd]; rw [if_neg (by omega)]
  | succ i ih =>
    intro f j hj
    simp only [insF]
    split
    · rw [ih _ j (by omega)]
      simp only [upd]
      rw [if_neg (by omega)]
    · simp only [upd]
      rw [if_neg (by omega)]
theorem insF_c (t : Int32) : ∀ i (f g : Nat → Int32), (∀ j, j < i → f j = g j) → ∀ j, j ≤ i → insF t i f j = insF t i g j := by
  intro i
  induction i with
  | zero => intro f g h j hj; simp only [insF, upd]; rw [if_pos (by omega), if_pos (by omega)]
  | succ i ih =>
    intro f g h j hj
    simp only [insF]
    rw [h i (by omega)]
    split
    · rcases (show j ≤ i ∨ j = i + 1 by omega) with c | c
      · refine ih _ _ (fun q hq => ?_) j c
        simp only [upd]
        rw [if_neg (by omega), if_neg (by omega)]
        exact h q (by omega)
      · rw [insF_out _ _ _ _ (by omega), insF_out _ _ _ _ (by omega)]
        simp only [upd]
        rw [if_pos c, if_pos c]
    · simp only [upd]
      split
      · rfl
      · exact h j (by omega)
def midF (en : List en_E) : Nat → Nat → Option Nat → (Nat → Int32) → (Nat → Int32) × Nat
  | 0, n, _, f => (f, n)
  | m + 1, n, p, f => match p with
    | none => (f, n)
    | some k => midF en m (n + 1) (eP en k) (insF (eT en k) n f)
def midE (en : List en_E) (k : Nat) : Int32 := (midF en 11 0 (some k) (fun _ => 0)).1 ((midF en 11 0 (some k) (fun _ => 0)).2 / 2)
theorem midF_c (en : List en_E) : ∀ m n p (f g : Nat → Int32), (∀ j, j < n → f j = g j) → (midF en m n p f).2 = (midF en m n p g).2 ∧ n ≤ (midF en m n p f).2 ∧ ∀ j, j < (midF en m n p f).2 → (midF en m n p f).1 j = (midF en m n p g).1 j := by
  intro m
  induction m with
  | zero => intro n p f g h; exact ⟨rfl, Nat.le_refl _, h⟩
  | succ m ih =>
    intro n p f g h
    cases p with
    | none => exact ⟨rfl, Nat.le_refl _, h⟩
    | some k =>
      simp only [midF]
      obtain ⟨a, b, c⟩ := ih (n + 1) (eP en k) (insF (eT en k) n f) (insF (eT en k) n g) (fun j hj => insF_c _ _ _ _ h j (by omega))
      exact ⟨a, by omega, c⟩
theorem midE_of {en : List en_E} {k : Nat} {g : Nat → Int32} : (midF en 11 0 (some k) g).1 ((midF en 11 0 (some k) g).2 / 2) = midE en k := by
  obtain ⟨a, b, c⟩ := midF_c en 11 0 (some k) g (fun _ => 0) (fun j hj => absurd hj (by omega))
  unfold midE
  rw [← a]
  have e : 1 ≤ (midF en 11 0 (some k) g).2 := by
    simp only [midF]
    exact (midF_c en 10 1 (eP en k) (insF (eT en k) 0 g) (insF (eT en k) 0 g) (fun _ _ => rfl)).2.1
  exact c _ (by omega)
theorem midF_le (en : List en_E) : ∀ m n p (f : Nat → Int32), n ≤ (midF en m n p f).2 ∧ (midF en m n p f).2 ≤ n + m := by
  intro m
  induction m with
  | zero => intro n p f; exact ⟨Nat.le_refl _, Nat.le_refl _⟩
  | succ m ih =>
    intro n p f
    cases p with
    | none => exact ⟨Nat.le_refl _, by show n ≤ n + (m + 1); omega⟩
    | some k => have q := ih (n + 1) (eP en k) (insF (eT en k) n f); simp only [midF]; omega
/-- the bits that are due behind k -/
def spE (en : List en_E) (k : Nat) : Nat := (max 40 (min 640 ((eT en k).toInt - (eT en (upE en k 15)).toInt))).toNat
def dueE (en : List en_E) (k : Nat) : Int32 := if (eH en k + 1) % 16 = 0 then tgBits (min (tgT (eB en k) * spE en k / 160) (tgT 537919487)) else eB en k
theorem spE_le (en : List en_E) (k : Nat) : 40 ≤ spE en k ∧ spE en k ≤ 640 := by unfold spE; omega
/-- the number of the block of a hash -/
def blF (bl : List bk_B) (s : by_L) : Nat := fsI (fun k => smS (haS (bBy bl k)) s) bl.length
def enX (fb fh ft fi : Nat → Int32) (en : List en_E) : Prop := ∀ k, k < en.length → fb k = pvI (eP en k) ∧ fh k = nI (eH en k) ∧ ft k = eT en k ∧ fi k = eB en k
theorem haS_len (l : by_L) : (haS l).length = 32 := dgS_len _
