/-! strings of bytes as lists -/
abbrev by_L : Type := List Int32
def lf (l : by_L) (j : Nat) : Int32 := l.getD j 0
/-- the string l stands in f from a on -/
def isA (f : Nat → Int32) (a : Nat) (l : by_L) : Prop := ∀ j, j < l.length → f (a + j) = lf l j
def cutL (f : Nat → Int32) (a n : Nat) : by_L := (List.range n).map (fun j => f (a + j))
def subL (l : by_L) (a n : Nat) : by_L := cutL (lf l) a n
theorem cutL_len (f : Nat → Int32) (a n : Nat) : (cutL f a n).length = n := by simp [cutL]
theorem lf_cutL {f : Nat → Int32} {a n j : Nat} (h : j < n) : lf (cutL f a n) j = f (a + j) := by
  unfold lf cutL
  rw [List.getD_eq_getElem?_getD, List.getElem?_map, List.getElem?_range h]
  rfl
theorem subL_len (l : by_L) (a n : Nat) : (subL l a n).length = n := cutL_len _ _ _
theorem lf_subL {l : by_L} {a n j : Nat} (h : j < n) : lf (subL l a n) j = lf l (a + j) := lf_cutL h
theorem isA_cut (f : Nat → Int32) (a n : Nat) : isA f a (cutL f a n) := by
  intro j hj
  rw [cutL_len] at hj
  rw [lf_cutL hj]
theorem isA_self (l : by_L) : isA (lf l) 0 l := fun j _ => by rw [Nat.zero_add]
theorem isA_sub {f : Nat → Int32} {a i n : Nat} {l : by_L} (h : isA f a l) (hi : i + n ≤ l.length) : isA f (a + i) (subL l i n) := by
  intro j hj
  rw [subL_len] at hj
  rw [lf_subL hj, Nat.add_assoc]
  exact h (i + j) (by omega)
theorem lf_ext {l m : by_L} (hl : l.length = m.length) (h : ∀ j, j < l.length → lf l j = lf m j) : l = m := by
  apply List.ext_getElem? 
  intro i
  rcases Nat.lt_or_ge i l.length with c | c
  · have e := h i c
    unfold lf at e
    rw [List.getD_eq_getElem?_getD, List.getD_eq_getElem?_getD, List.getElem?_eq_getElem c, List.getElem?_eq_getElem (by omega)] at e
    rw [List.getElem?_eq_getElem c, List.getElem?_eq_getElem (by omega)]
    exact congrArg some e
  · rw [List.getElem?_eq_none c, List.getElem?_eq_none (by omega)]
theorem cutL_eq {f : Nat → Int32} {a : Nat} {l : by_L} (h : isA f a l) : cutL f a l.length = l := by
  refine lf_ext (cutL_len _ _ _) (fun j hj => ?_)
  rw [cutL_len] at hj
  rw [lf_cutL hj, h j hj]
theorem isA_c {f g : Nat → Int32} {a b : Nat} {l : by_L} (h : isA f a l) (e : ∀ j, j < l.length → g (b + j) = f (a + j)) : isA g b l := fun j hj => (e j hj).trans (h j hj)
theorem isA_nil (f : Nat → Int32) (a : Nat) : isA f a [] := fun j hj => absurd hj (Nat.not_lt_zero j)
/-- the leaves' functions of a string -/
def shS (l : by_L) : Nat → Int32 := sh_h (lf l) 0 l.length
theorem shS_of {f : Nat → Int32} {a n : Nat} {l : by_L} (h : isA f a l) (hn : l.length = n) : sh_h f a n = shS l := by
  subst hn
  exact sh_h_c (fun i hi => by rw [h i hi, Nat.zero_add])
theorem bn_num_c {f g : Nat → Int32} {a b : Nat} : ∀ k, (∀ i, i < k → bb (f (a + i)) = bb (g (b + i))) → bn_num f a k = bn_num g b k := by
  intro k
  induction k with
  | zero => intro _; rfl
  | succ k ih =>
    intro h
    simp only [bn_num, ih (fun i hi => h i (by omega)), h k (by omega)]
theorem num_of {f : Nat → Int32} {a i k : Nat} {l : by_L} (h : isA f a l) (hi : i + k ≤ l.length) : bn_num f (a + i) k = bn_num (lf l) i k :=
  bn_num_c k (fun j hj => by rw [Nat.add_assoc, h (i + j) (by omega)])
theorem int_of {f : Nat → Int32} {a i : Nat} {l : by_L} (h : isA f a l) (hi : i + 4 ≤ l.length) : bn_int f (a + i) = bn_int (lf l) i := by
  unfold bn_int
  rw [bn_nat_c (f := f) (g := lf l) (a := a + i) (b := i) 4 (fun j hj => by rw [Nat.add_assoc, h (i + j) (by omega)])]
theorem bn_int_c {f g : Nat → Int32} {a b : Nat} (h : ∀ i, i < 4 → bb (f (a + i)) = bb (g (b + i))) : bn_int f a = bn_int g b := by
  unfold bn_int
  rw [bn_nat_c 4 h]
theorem tx_pl_c {f g : Nat → Int32} {a b : Nat} : ∀ n, (∀ i, i < 2 + 73 * n → f (a + i) = g (b + i)) → tx_pl f a n = tx_pl g b n := by
  intro n
  induction n with
  | zero => intro _; rfl
  | succ n ih =>
    intro h
    have e := h (2 + n * 73 + 8) (by omega)
    rw [show a + (2 + n * 73 + 8) = a + 2 + n * 73 + 8 by omega, show b + (2 + n * 73 + 8) = b + 2 + n * 73 + 8 by omega] at e
    simp only [tx_pl, ih (fun i hi => h i (by omega)), e]
theorem tx_sz_ge {p q : Nat} : 2 + 73 * p ≤ tx_sz p q := by
  unfold tx_sz tx_oa
  split <;> omega
theorem tx_len_c {f g : Nat → Int32} {a b n : Nat} (h : ∀ i, i < n → f (a + i) = g (b + i)) : tx_len f a (a + n) = tx_len g b (b + n) := by
  unfold tx_len
  by_cases c0 : n < 2
  · rw [if_pos (show a + n < a + 2 by omega), if_pos (show b + n < b + 2 by omega)]
  rw [if_neg (show ¬ a + n < a + 2 by omega), if_neg (show ¬ b + n < b + 2 by omega)]
  have e0 := h 0 (by omega)
  have e1 := h 1 (by omega)
  rw [Nat.add_zero, Nat.add_zero] at e0
  rw [e0, e1]
  by_cases c1 : 4 < bb (g b) ∨ bb (g (b + 1)) < 1 ∨ 4 < bb (g (b + 1))
  · rw [if_pos c1, if_pos c1]
  rw [if_neg c1, if_neg c1]
  by_cases c2 : n < tx_sz (bb (g b)) (bb (g (b + 1)))
  · rw [if_pos (show a + n < a + tx_sz (bb (g b)) (bb (g (b + 1))) by omega), if_pos (show b + n < b + tx_sz (bb (g b)) (bb (g (b + 1))) by omega)]
  rw [if_neg (show ¬ a + n < a + tx_sz (bb (g b)) (bb (g (b + 1))) by omega), if_neg (show ¬ b + n < b + tx_sz (bb (g b)) (bb (g (b + 1))) by omega)]
  have h2 : 3 ≤ tx_sz (bb (g b)) (bb (g (b + 1))) := by unfold tx_sz; omega
  rw [h 2 (by omega), tx_pl_c _ (fun i hi => h i (by have := tx_sz_ge (p := bb (g b)) (q := bb (g (b + 1))); omega))]
def txS (l : by_L) : Nat := tx_len (lf l) 0 l.length
theorem txS_of {f : Nat → Int32} {a e n : Nat} {l : by_L} (h : isA f a l) (hn : l.length = n) (he : a + n = e) : tx_len f a e = txS l := by
  subst hn; subst he
  have q := tx_len_c (f := f) (g := lf l) (a := a) (b := 0) (n := l.length) (fun i hi => by rw [h i hi, Nat.zero_add])
  rw [Nat.zero_add] at q
  exact q
theorem bk_st_c {f g : Nat → Int32} {e : Nat} (h : ∀ i, i < e → f i = g i) : ∀ k, bk_st f e k = bk_st g e k ∧ bk_ok f e k = bk_ok g e k := by
  intro k
  have tl : ∀ a, tx_len f a e = tx_len g a e := by
    intro a
    rcases Nat.lt_or_ge e (a + 2) with c | c
    · rw [tx_0 c, tx_0 c]
    · have q := tx_len_c (f := f) (g := g) (a := a) (b := a) (n := e - a) (fun i hi => h (a + i) (by omega))
      rw [show a + (e - a) = e by omega] at q
      exact q
  induction k with
  | zero => exact ⟨rfl, rfl⟩
  | succ k ih =>
    simp only [bk_st, bk_ok]
    rw [ih.1, ih.2, tl]
    exact ⟨rfl, rfl⟩
theorem bk_n_c {f g : Nat → Int32} {e : Nat} (h : ∀ i, i < e → f i = g i) : bk_n f e = bk_n g e := by
  unfold bk_n
  by_cases c : e < 81
  · rw [if_pos c, if_pos c]
  rw [if_neg c, if_neg c, h 64 (by omega), h 80 (by omega), (bk_st_c h _).1, (bk_st_c h _).2]
/-- the transactions of a block -/
def bkN (l : by_L) : Nat := bk_n (lf l) l.length
def bkS (l : by_L) (k : Nat) : Nat := bk_st (lf l) l.length k
def bkT (l : by_L) (k : Nat) : by_L := subL l (bkS l k) (bkS l (k + 1) - bkS l k)
def hdS (l : by_L) : by_L := subL l 0 80
def idS (t : by_L) : Int64 := sh_lim (shS t) 0
/-- a digest as a string -/
def dgS (h : Nat → Int32) : by_L := cutL (sh_dg h) 0 32
def haS (l : by_L) : by_L := dgS (sh_2 (shS (hdS l)))
def smS (a b : by_L) : Bool := decide (a = b)
theorem smS_of {f g : Nat → Int32} {a b n : Nat} {l m : by_L} (hl : isA f a l) (hm : isA g b m) (h1 : l.length = n) (h2 : m.length = n) : smB f g a b n = smS l m := by
  subst h1
  unfold smB smS
  apply decide_eq_decide.mpr
  constructor
  · intro h
    exact lf_ext h2.symm (fun j hj => by rw [← hl j hj, ← hm j (by omega), h j hj])
  · intro h j hj
    subst h
    rw [hl j hj, hm j hj]
