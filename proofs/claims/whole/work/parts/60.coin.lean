/-! what is unspent, as a list -/
/-- the first i < n with p i, else n -/
def fsI (p : Nat → Bool) : Nat → Nat
  | 0 => 0
  | n + 1 => if fsI p n < n then fsI p n else if p n then n else n + 1
theorem fsI_le (p : Nat → Bool) : ∀ n, fsI p n ≤ n := by
  intro n
  induction n with
  | zero => exact Nat.le_refl _
  | succ n ih =>
    simp only [fsI]
    split
    · omega
    · split <;> omega
theorem fsI_no {p : Nat → Bool} : ∀ n, (∀ j, j < n → p j = false) → fsI p n = n := by
  intro n
  induction n with
  | zero => intro _; rfl
  | succ n ih =>
    intro h
    have e := ih (fun j hj => h j (by omega))
    simp only [fsI]
    rw [if_neg (by omega), if_neg (by rw [h n (by omega)]; decide)]
theorem fsI_at {p : Nat → Bool} {i : Nat} (hp : p i = true) (hj : ∀ j, j < i → p j = false) : ∀ n, i < n → fsI p n = i := by
  intro n
  induction n with
  | zero => intro h; omega
  | succ n ih =>
    intro h
    simp only [fsI]
    rcases (show i = n ∨ i < n by omega) with e | c
    · subst e
      have e2 := fsI_no i hj
      rw [if_neg (by omega), if_pos hp]
    · rw [if_pos (by rw [ih c]; exact c), ih c]
theorem fsI_lt {p : Nat → Bool} : ∀ n, fsI p n < n → p (fsI p n) = true ∧ ∀ j, j < fsI p n → p j = false := by
  intro n
  induction n with
  | zero => intro h; omega
  | succ n ih =>
    intro h
    simp only [fsI] at h ⊢
    by_cases c : fsI p n < n
    · rw [if_pos c]; exact ih c
    · rw [if_neg c] at h ⊢
      by_cases c2 : p n = true
      · rw [if_pos c2]
        refine ⟨c2, fun j hj => ?_⟩
        have hle := fsI_le p n
        have e : fsI p n = n := by omega
        cases hpj : p j with
        | false => rfl
        | true =>
          exfalso
          have q : ∀ m, m ≤ n → fsI p m < m ∨ ∀ i, i < m → p i = false := by
            intro m
            induction m with
            | zero => intro _; exact Or.inr (fun i hi => by omega)
            | succ m ihm =>
              intro hm
              rcases ihm (by omega) with r | r
              · left; simp only [fsI]; rw [if_pos r]; omega
              · have e3 := fsI_no m r
                cases hm2 : p m with
                | false => right; intro i hi; rcases (show i = m ∨ i < m by omega) with rfl | x; exact hm2; exact r i x
                | true => left; simp only [fsI]; rw [if_neg (by omega), if_pos hm2]; omega
          rcases q n (Nat.le_refl _) with r | r
          · omega
          · rw [r j hj] at hpj; cases hpj
      · rw [if_neg c2] at h; omega
/-- an index, or -1 -/
def ixI (i n : Nat) : Int32 := if i < n then nI i else -1
/-- id, place, amount, address, height, reward -/
abbrev co_C : Type := Int64 × Int32 × Int64 × Int64 × Nat × Bool
def coL (cs : List co_C) (k : Nat) : co_C := cs.getD k (0, 0, 0, 0, 0, false)
def coF (cs : List co_C) (iD : Int64) (pl : Int32) : Nat := fsI (fun k => decide ((coL cs k).1 = iD ∧ (coL cs k).2.1 = pl)) cs.length
def coHs (cs : List co_C) (iD : Int64) : Bool := decide (fsI (fun k => decide ((coL cs k).1 = iD)) cs.length < cs.length)
def coX (f1 : Nat → Int64) (f2 : Nat → Int32) (f3 f4 : Nat → Int64) (f5 f6 : Nat → Int32) (cs : List co_C) : Prop := ∀ k, k < cs.length → f1 k = (coL cs k).1 ∧ f2 k = (coL cs k).2.1 ∧ f3 k = (coL cs k).2.2.1 ∧ f4 k = (coL cs k).2.2.2.1 ∧ f5 k = nI (coL cs k).2.2.2.2.1 ∧ f6 k = hz_b (coL cs k).2.2.2.2.2
theorem coL_app {cs : List co_C} {t : co_C} {j : Nat} (h : j < cs.length) : coL (cs ++ [t]) j = coL cs j := by
  unfold coL
  rw [List.getD_eq_getElem?_getD, List.getD_eq_getElem?_getD, List.getElem?_append_left h]
theorem coL_last {cs : List co_C} {t : co_C} : coL (cs ++ [t]) cs.length = t := by
  unfold coL
  rw [List.getD_eq_getElem?_getD, List.getElem?_append_right (Nat.le_refl _), Nat.sub_self]
  rfl
theorem coL_er {cs : List co_C} {k j : Nat} : coL (cs.eraseIdx k) j = if j < k then coL cs j else coL cs (j + 1) := by
  unfold coL
  rw [List.getD_eq_getElem?_getD, List.getElem?_eraseIdx]
  split
  · rw [List.getD_eq_getElem?_getD]
  · rw [List.getD_eq_getElem?_getD]
theorem co_erl {cs : List co_C} {k : Nat} (h : k < cs.length) : (cs.eraseIdx k).length = cs.length - 1 := by rw [List.length_eraseIdx, if_pos h]
theorem coX_app {f1 : Nat → Int64} {f2 : Nat → Int32} {f3 f4 : Nat → Int64} {f5 f6 : Nat → Int32} {cs : List co_C} {n : Nat} (h : coX f1 f2 f3 f4 f5 f6 cs) (hn : cs.length = n) {a : Int64} {b : Int32} {c d : Int64} {e e9 : Int32} {ht : Nat} {rw_ : Bool} (he : e = nI ht) (h9 : e9 = hz_b rw_) :
    coX (vp_updL f1 n a) (upd f2 n b) (vp_updL f3 n c) (vp_updL f4 n d) (upd f5 n e) (upd f6 n e9) (cs ++ [(a, b, c, d, ht, rw_)]) := by
  subst hn; subst he; subst h9
  intro k hk
  rw [List.length_append, show cs.length + [(a, b, c, d, ht, rw_)].length = cs.length + 1 from rfl] at hk
  rcases (show k = cs.length ∨ k < cs.length by omega) with rfl | q
  · rw [coL_last]
    simp [vp_updL, upd]
  · rw [coL_app q]
    have e : ¬ k = cs.length := by omega
    simp only [vp_updL, upd, if_neg e]
    exact h k q
theorem coX_er {f1 : Nat → Int64} {f2 : Nat → Int32} {f3 f4 : Nat → Int64} {f5 f6 : Nat → Int32} {g1 : Nat → Int64} {g2 : Nat → Int32} {g3 g4 : Nat → Int64} {g5 g6 : Nat → Int32} {cs : List co_C} {k0 : Nat} (h : coX f1 f2 f3 f4 f5 f6 cs) (hk : k0 < cs.length)
    (hl : ∀ j, j < k0 → g1 j = f1 j ∧ g2 j = f2 j ∧ g3 j = f3 j ∧ g4 j = f4 j ∧ g5 j = f5 j ∧ g6 j = f6 j) (hr : ∀ j, k0 ≤ j → j < cs.length - 1 → g1 j = f1 (j + 1) ∧ g2 j = f2 (j + 1) ∧ g3 j = f3 (j + 1) ∧ g4 j = f4 (j + 1) ∧ g5 j = f5 (j + 1) ∧ g6 j = f6 (j + 1)) : coX g1 g2 g3 g4 g5 g6 (cs.eraseIdx k0) := by
  intro j hj
  rw [co_erl hk] at hj
  rw [coL_er]
  by_cases c : j < k0
  · rw [if_pos c]
    obtain ⟨e1, e2, e3, e4, e5, e6⟩ := hl j c
    rw [e1, e2, e3, e4, e5, e6]
    exact h j (by omega)
  · rw [if_neg c]
    obtain ⟨e1, e2, e3, e4, e5, e6⟩ := hr j (by omega) hj
    rw [e1, e2, e3, e4, e5, e6]
    exact h (j + 1) (by omega)
/-- what a transaction does to what is unspent -/
def txI (t : by_L) : Nat := bb (lf t 0)
def txO (t : by_L) : Nat := bb (lf t 1)
def inId (t : by_L) (k : Nat) : Int64 := bn_num (lf t) (2 + 73 * k) 8
def inPl (t : by_L) (k : Nat) : Int32 := nI (bb (lf t (2 + 73 * k + 8)))
def ouA (t : by_L) (k : Nat) : Nat := 2 + tx_oa (txI t) + k * 16
def coDrop (cs : List co_C) (iD : Int64) (pl : Int32) : List co_C := if coF cs iD pl < cs.length then cs.eraseIdx (coF cs iD pl) else cs
def coSp (t : by_L) (cs : List co_C) : Nat → List co_C
  | 0 => cs
  | k + 1 => coDrop (coSp t cs k) (inId t k) (inPl t k)
def coNew (t : by_L) (iD : Int64) (h k : Nat) : co_C := (iD, nI k, bn_num (lf t) (ouA t k) 8, bn_num (lf t) (ouA t k + 8) 8, h, decide (txI t = 0))
def coAd (t : by_L) (iD : Int64) (h : Nat) (cs : List co_C) : Nat → List co_C
  | 0 => cs
  | k + 1 => coAd t iD h cs k ++ [coNew t iD h k]
def coAp (cs : List co_C) (t : by_L) (iD : Int64) (h : Nat) : List co_C := coAd t iD h (coSp t cs (txI t)) (txO t)
theorem coDrop_len (cs : List co_C) (iD : Int64) (pl : Int32) : (coDrop cs iD pl).length ≤ cs.length := by
  unfold coDrop
  split
  · next h => rw [co_erl h]; omega
  · exact Nat.le_refl _
theorem coSp_len (t : by_L) (cs : List co_C) : ∀ k, (coSp t cs k).length ≤ cs.length := by
  intro k
  induction k with
  | zero => exact Nat.le_refl _
  | succ k ih => exact Nat.le_trans (coDrop_len _ _ _) ih
theorem coAd_len (t : by_L) (iD : Int64) (h : Nat) (cs : List co_C) : ∀ k, (coAd t iD h cs k).length = cs.length + k := by
  intro k
  induction k with
  | zero => rfl
  | succ k ih => simp only [coAd, List.length_append, ih, List.length_cons, List.length_nil]; omega
/-- a transaction that is one -/
def txW (t : by_L) : Prop := txS t = t.length ∧ ¬ t.length = 0
theorem txW_sz {t : by_L} (h : txW t) : txI t ≤ 4 ∧ 1 ≤ txO t ∧ txO t ≤ 4 ∧ t.length = 2 + tx_oa (txI t) + txO t * 16 ∧ (∀ k, k < txI t → bb (lf t (2 + 73 * k + 8)) < 4) := by
  obtain ⟨h1, h2⟩ := h
  unfold txS tx_len at h1
  rw [Nat.zero_add, Nat.zero_add] at h1
  by_cases c0 : t.length < 2
  · rw [if_pos c0] at h1; omega
  rw [if_neg c0] at h1
  by_cases c1 : 4 < bb (lf t 0) ∨ bb (lf t 1) < 1 ∨ 4 < bb (lf t 1)
  · rw [if_pos c1] at h1; omega
  rw [if_neg c1] at h1
  by_cases c2 : t.length < 0 + tx_sz (bb (lf t 0)) (bb (lf t 1))
  · rw [if_pos (by omega)] at h1; omega
  rw [if_neg (by omega)] at h1
  by_cases c3 : bb (lf t 0) = 0 ∧ 128 ≤ bb (lf t 2)
  · rw [if_pos (by simpa using c3)] at h1; omega
  rw [if_neg (by simpa using c3)] at h1
  by_cases c4 : tx_pl (lf t) 0 (bb (lf t 0)) = true
  · rw [if_pos c4] at h1
    refine ⟨by unfold txI; omega, by unfold txO; omega, by unfold txO; omega, by rw [← h1]; rfl, ?_⟩
    intro k hk
    rcases Nat.lt_or_ge (bb (lf t (2 + 73 * k + 8))) 4 with c | c
    · exact c
    · have q := tx_pl_f (f := lf t) (at_ := 0) (k := k) (by rw [show 0 + 2 + k * 73 + 8 = 2 + 73 * k + 8 by omega]; exact c) _ hk
      unfold txI at q
      rw [q] at c4
      cases c4
  · rw [if_neg c4] at h1; omega
