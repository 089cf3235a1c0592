/-! blocks and their transactions: pure facts; what is unspent behind a block -/
theorem hz_wk {κ : hz_C} {x : hz_X} {d mc ms : Nat} {P P2 : hz_P} {cn sn pc : Nat} {lo : List (Nat × Value)} {st : List Value} {z : Nat} {M : hz_M} (h : hz_W κ x d mc ms P cn sn pc lo st z M) (hp : ∀ r z M, P r z M → P2 r z M) : hz_W κ x d mc ms P2 cn sn pc lo st z M := by
  intro p e s m args below meth c H locs ls F hwd hS hl T hT X
  obtain ⟨t, a1, o, b1, b2, ⟨⟨r, z2, M2, q1, q2, q3⟩, q4⟩, b4⟩ := h p e s m args below meth c H locs ls F hwd hS hl T hT X
  exact ⟨t, a1, o, b1, b2, ⟨⟨r, z2, M2, q1, hp _ _ _ q2, q3⟩, q4⟩, b4⟩
theorem tx_len_cut {f : Nat → Int32} {a e : Nat} (h : ¬ tx_len f a e = 0) : a + tx_len f a e ≤ e ∧ tx_len f a (a + tx_len f a e) = tx_len f a e := by
  unfold tx_len at h ⊢
  by_cases c0 : e < a + 2
  · rw [if_pos c0] at h; exact absurd rfl h
  rw [if_neg c0] at h ⊢
  by_cases c1 : 4 < bb (f a) ∨ bb (f (a + 1)) < 1 ∨ 4 < bb (f (a + 1))
  · rw [if_pos c1] at h; exact absurd rfl h
  rw [if_neg c1] at h ⊢
  by_cases c2 : e < a + tx_sz (bb (f a)) (bb (f (a + 1)))
  · rw [if_pos c2] at h; exact absurd rfl h
  rw [if_neg c2] at h ⊢
  by_cases c3 : bb (f a) = 0 ∧ 128 ≤ bb (f (a + 2))
  · rw [if_pos c3] at h; exact absurd rfl h
  rw [if_neg c3] at h ⊢
  by_cases c4 : tx_pl f a (bb (f a)) = true
  · rw [if_pos c4] at h ⊢
    have h2 : 2 ≤ tx_sz (bb (f a)) (bb (f (a + 1))) := by unfold tx_sz; omega
    refine ⟨by omega, ?_⟩
    rw [if_neg (show ¬ a + tx_sz (bb (f a)) (bb (f (a + 1))) < a + 2 by omega), if_neg c1, if_neg (Nat.lt_irrefl _)]
  · rw [if_neg c4] at h; exact absurd rfl h
theorem tx_len_sh {f : Nat → Int32} {o a : Nat} {l : by_L} (h : isA f o l) (ha : a ≤ l.length) : tx_len f (o + a) (o + l.length) = tx_len (lf l) a l.length := by
  have q := tx_len_c (f := f) (g := lf l) (a := o + a) (b := a) (n := l.length - a) (fun i hi => by rw [Nat.add_assoc, h (a + i) (by omega)])
  rw [show o + a + (l.length - a) = o + l.length by omega, show a + (l.length - a) = l.length by omega] at q
  exact q
/-- a block that is one -/
def blW (l : by_L) : Prop := ¬ bkN l = 0
theorem blW.f {l : by_L} (h : blW l) : 81 ≤ l.length ∧ bb (lf l 64) < 128 ∧ bkN l = bb (lf l 80) ∧ 1 ≤ bkN l ∧ bkN l ≤ 8 ∧ bk_ok (lf l) l.length (bkN l) = true ∧ bkS l (bkN l) = l.length := by
  unfold blW bkN at h
  unfold bkN bkS
  unfold bk_n at h ⊢
  by_cases c0 : l.length < 81
  · rw [if_pos c0] at h; exact absurd rfl h
  rw [if_neg c0] at h ⊢
  by_cases c1 : 128 ≤ bb (lf l 64)
  · rw [if_pos c1] at h; exact absurd rfl h
  rw [if_neg c1] at h ⊢
  by_cases c2 : bb (lf l 80) < 1 ∨ 8 < bb (lf l 80)
  · rw [if_pos c2] at h; exact absurd rfl h
  rw [if_neg c2] at h ⊢
  by_cases c3 : bk_ok (lf l) l.length (bb (lf l 80)) = true ∧ bk_st (lf l) l.length (bb (lf l 80)) = l.length
  · rw [if_pos c3] at h ⊢
    exact ⟨by omega, by omega, rfl, by omega, by omega, c3.1, c3.2⟩
  · rw [if_neg c3] at h; exact absurd rfl h
theorem bk_ok_at {f : Nat → Int32} {e : Nat} : ∀ n, bk_ok f e n = true → ∀ j, j < n → ¬ tx_len f (bk_st f e j) e = 0 := by
  intro n
  induction n with
  | zero => intro _ j hj; omega
  | succ n ih =>
    intro h j hj
    simp only [bk_ok, Bool.and_eq_true, decide_eq_true_eq] at h
    rcases (show j = n ∨ j < n by omega) with rfl | c
    · exact h.2
    · exact ih h.1 j c
theorem bkS_0 (l : by_L) : bkS l 0 = 81 := rfl
theorem blW.t {l : by_L} (h : blW l) {j : Nat} (hj : j < bkN l) : bkS l (j + 1) = bkS l j + (bkT l j).length ∧ txW (bkT l j) ∧ 81 ≤ bkS l j ∧ bkS l (j + 1) ≤ l.length ∧ tx_len (lf l) (bkS l j) l.length = (bkT l j).length := by
  obtain ⟨f1, f2, f3, f4, f5, f6, f7⟩ := h.f
  have q := bk_ok_at _ f6 j hj
  obtain ⟨q1, q2⟩ := tx_len_cut q
  have e1 : bkS l (j + 1) = bkS l j + tx_len (lf l) (bk_st (lf l) l.length j) l.length := rfl
  have e0 : bkS l j = bk_st (lf l) l.length j := rfl
  have hl : (bkT l j).length = tx_len (lf l) (bkS l j) l.length := by
    unfold bkT
    rw [subL_len, e1, e0]
    omega
  have h81 : 81 ≤ bkS l j := by
    have r : ∀ i, 81 ≤ bkS l i := by
      intro i
      induction i with
      | zero => exact Nat.le_refl _
      | succ i ih => exact Nat.le_trans ih (Nat.le_add_right _ _)
    exact r j
  refine ⟨by rw [e1, hl]; rfl, ⟨?_, by rw [hl]; exact q⟩, h81, by rw [e1]; exact q1, hl.symm⟩
  have hA : isA (lf l) (bkS l j) (bkT l j) := by
    have r := isA_sub (i := bkS l j) (n := bkS l (j + 1) - bkS l j) (isA_self l) (by rw [e1]; omega)
    rw [Nat.zero_add] at r
    exact r
  rw [← txS_of hA rfl rfl, hl]
  exact q2
theorem blW.A {l : by_L} (h : blW l) {f : Nat → Int32} {o j : Nat} (hA : isA f o l) (hj : j < bkN l) : isA f (o + bkS l j) (bkT l j) := by
  obtain ⟨t1, t2, t3, t4, t5⟩ := h.t hj
  exact isA_sub hA (by omega)
theorem txW_len {t : by_L} (h : txW t) : 22 ≤ t.length ∧ t.length ≤ 358 := by
  obtain ⟨w1, w2, w3, w4, w5⟩ := txW_sz h
  have hoa : 4 ≤ tx_oa (txI t) ∧ tx_oa (txI t) ≤ 292 := by unfold tx_oa; split <;> omega
  omega
theorem blW.len {l : by_L} (h : blW l) : 103 ≤ l.length ∧ l.length ≤ 2945 := by
  obtain ⟨f1, f2, f3, f4, f5, f6, f7⟩ := h.f
  have r : ∀ i, i ≤ bkN l → 81 + 22 * i ≤ bkS l i ∧ bkS l i ≤ 81 + 358 * i := by
    intro i
    induction i with
    | zero => intro _; exact ⟨Nat.le_refl _, Nat.le_refl _⟩
    | succ i ih =>
      intro hi
      obtain ⟨a, b⟩ := ih (by omega)
      obtain ⟨t1, t2, -⟩ := h.t (j := i) (by omega)
      have q := txW_len t2
      omega
  obtain ⟨a, b⟩ := r (bkN l) (Nat.le_refl _)
  omega
def coTs (l : by_L) (h : Nat) (cs : List co_C) : Nat → List co_C
  | 0 => cs
  | j + 1 => coAp (coTs l h cs j) (bkT l j) (idS (bkT l j)) h
def coC (bl : List bk_B) (en : List en_E) (k : Nat) : Nat → List co_C
  | 0 => []
  | h + 1 => coTs (bBy bl (chE en k h)) h (coC bl en k h) (bkN (bBy bl (chE en k h)))
/-- what is unspent behind block k -/
def coAt (bl : List bk_B) (en : List en_E) (k : Nat) : List co_C := coC bl en k (eH en k + 1)
/-- there is room for all that comes on the way to k -/
def cbX (bl : List bk_B) (en : List en_E) (k : Nat) : Prop := ∀ h, h ≤ eH en k → ∀ j, j ≤ bkN (bBy bl (chE en k h)) → (coTs (bBy bl (chE en k h)) h (coC bl en k h) j).length ≤ 396
/-- all stored blocks are blocks -/
def blX (bl : List bk_B) : Prop := ∀ k, k < bl.length → blW (bBy bl k)
theorem rowL_bl (bl : List bk_B) (k : Nat) : rowL (bl.map Prod.fst) k = bBy bl k := by
  unfold rowL bBy bkL
  rw [List.getD_eq_getElem?_getD, List.getElem?_map, List.getD_eq_getElem?_getD]
  cases bl[k]? with
  | none => rfl
  | some b => rfl
