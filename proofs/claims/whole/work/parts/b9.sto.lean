/-! the reference: the orphans while blocks are stored, the pure side -/
/-- those that aren't through yet -/
def loO (ol : List or_O) : List by_L := (ol.filter (fun x => decide (¬ x.2 = 2))).map Prod.fst
theorem loO_app (a b : List or_O) : loO (a ++ b) = loO a ++ loO b := by unfold loO; rw [List.filter_append, List.map_append]
theorem loO_c {x : or_O} {b : List or_O} (h : ¬ x.2 = 2) : loO (x :: b) = x.1 :: loO b := by
  unfold loO
  rw [List.filter_cons, if_pos (decide_eq_true h), List.map_cons]
theorem loO_n {x : or_O} {b : List or_O} (h : x.2 = 2) : loO (x :: b) = loO b := by
  unfold loO
  rw [List.filter_cons, if_neg (by rw [decide_eq_false (fun q => q h)]; decide)]
theorem ol_cut {ol : List or_O} {i : Nat} (h : i < ol.length) : ol = ol.take i ++ orL ol i :: ol.drop (i + 1) := by
  have ex : orL ol i = ol[i] := by unfold orL; rw [List.getD_eq_getElem?_getD, List.getElem?_eq_getElem h]; rfl
  rw [ex, ← List.drop_eq_getElem_cons h, List.take_append_drop]
/-- entry i is through -/
def orZ (ol : List or_O) (i : Nat) : List or_O := ol.set i ((orL ol i).1, 2)
theorem orZ_len (ol : List or_O) (i : Nat) : (orZ ol i).length = ol.length := List.length_set
theorem orZ_at {ol : List or_O} {i : Nat} (h : i < ol.length) (j : Nat) : orL (orZ ol i) j = if j = i then ((orL ol i).1, 2) else orL ol j := by
  have e : orL (orZ ol i) j = (orZ ol i).getD j ([], 0) := rfl
  rw [e]
  unfold orZ
  rw [List.getD_eq_getElem?_getD, List.getElem?_set]
  by_cases c : i = j
  · rw [if_pos c, if_pos h, if_pos c.symm]; rfl
  · rw [if_neg c, if_neg (fun q => c q.symm), ← List.getD_eq_getElem?_getD]; rfl
theorem orZ_cut {ol : List or_O} {i : Nat} (h : i < ol.length) : orZ ol i = ol.take i ++ ((orL ol i).1, 2) :: ol.drop (i + 1) := by
  unfold orZ
  rw [List.set_eq_take_append_cons_drop, if_pos h]
/-- the first that matches, among those that aren't through -/
theorem loO_F {ol : List or_O} {i : Nat} {h : by_L} (hi : i < ol.length) (hs : ¬ (orL ol i).2 = 2) (hm : subL (orL ol i).1 0 32 = h) (hno : ∀ j, j < i → ¬ (orL ol j).2 = 2 → ¬ subL (orL ol j).1 0 32 = h) : loF (loO ol) h < (loO ol).length ∧ rowL (loO ol) (loF (loO ol) h) = (orL ol i).1 ∧ (loO ol).eraseIdx (loF (loO ol) h) = loO (orZ ol i) := by
  have e1 : loO ol = loO (ol.take i) ++ (orL ol i).1 :: loO (ol.drop (i + 1)) := by
    have q := congrArg loO (ol_cut hi)
    rw [loO_app, loO_c hs] at q
    exact q
  have hlt : (loO (ol.take i)).length < (loO ol).length := by rw [e1, List.length_append, List.length_cons]; omega
  have hr : rowL (loO ol) (loO (ol.take i)).length = (orL ol i).1 := by
    unfold rowL
    rw [e1, List.getD_eq_getElem?_getD, List.getElem?_append_right (Nat.le_refl _), Nat.sub_self]
    rfl
  have hall : ∀ y ∈ loO (ol.take i), ¬ subL y 0 32 = h := by
    intro y hy
    unfold loO at hy
    obtain ⟨x, hx, rfl⟩ := List.mem_map.mp hy
    obtain ⟨hx1, hx2⟩ := List.mem_filter.mp hx
    obtain ⟨j, hj, ej⟩ := List.getElem_of_mem hx1
    have hj2 : j < i := by rw [List.length_take] at hj; omega
    have eo : orL ol j = x := by
      unfold orL
      rw [List.getD_eq_getElem?_getD, ← List.getElem?_take_of_lt hj2, List.getElem?_eq_getElem hj, ej]
      rfl
    have q := hno j hj2 (by rw [eo]; exact of_decide_eq_true hx2)
    rw [eo] at q
    exact q
  have hf : loF (loO ol) h = (loO (ol.take i)).length := by
    unfold loF
    refine fsI_at (p := fun k => smS (subL (rowL (loO ol) k) 0 32) h) (i := (loO (ol.take i)).length) (decide_eq_true (by rw [hr]; exact hm)) (fun j hj => decide_eq_false ?_) _ hlt
    have er : rowL (loO ol) j ∈ loO (ol.take i) := by
      unfold rowL
      rw [e1, List.getD_eq_getElem?_getD, List.getElem?_append_left hj, List.getElem?_eq_getElem hj]
      exact List.getElem_mem hj
    exact hall _ er
  rw [hf]
  refine ⟨hlt, hr, ?_⟩
  have q := er_mid (orL ol i).1 (loO (ol.drop (i + 1))) (loO (ol.take i))
  rw [← e1] at q
  rw [q, orZ_cut hi, loO_app, loO_n rfl]
theorem loO_no {ol : List or_O} {h : by_L} (hno : ∀ j, j < ol.length → ¬ (orL ol j).2 = 2 → ¬ subL (orL ol j).1 0 32 = h) : ¬ loF (loO ol) h < (loO ol).length := by
  intro c
  have q := (fsI_lt (p := fun k => smS (subL (rowL (loO ol) k) 0 32) h) _ c).1
  have q1 : subL (rowL (loO ol) (loF (loO ol) h)) 0 32 = h := of_decide_eq_true q
  have er : rowL (loO ol) (loF (loO ol) h) ∈ loO ol := by
    unfold rowL
    rw [List.getD_eq_getElem?_getD, List.getElem?_eq_getElem c]
    exact List.getElem_mem c
  unfold loO at er
  obtain ⟨x, hx, ex⟩ := List.mem_map.mp er
  obtain ⟨hx1, hx2⟩ := List.mem_filter.mp hx
  obtain ⟨j, hj, ej⟩ := List.getElem_of_mem hx1
  have eo : orL ol j = x := by
    unfold orL
    rw [List.getD_eq_getElem?_getD, List.getElem?_eq_getElem hj, ej]
    rfl
  refine hno j hj (by rw [eo]; exact of_decide_eq_true hx2) ?_
  rw [eo, ex]
  exact q1
/-- the states: it waits, it is through, or it is due behind a block -/
def stX (ol : List or_O) (bl : List bk_B) : Prop := ∀ j, j < ol.length → (orL ol j).2 = 1 ∨ (orL ol j).2 = 2 ∨ ∃ q, 1 ≤ q ∧ q < bl.length ∧ (orL ol j).2 = 2 + q ∧ subL (orL ol j).1 0 32 = haS (bBy bl q)
/-- what becomes of the orphans -/
def olX (ol ol2 : List or_O) : Prop := ol2.length = ol.length ∧ ∀ j, j < ol.length → (orL ol2 j).1 = (orL ol j).1 ∧ ((orL ol2 j).2 = (orL ol j).2 ∨ ((orL ol j).2 = 1 ∧ (orL ol2 j).2 = 2))
theorem olX.rf {ol : List or_O} : olX ol ol := ⟨rfl, fun _ _ => ⟨rfl, Or.inl rfl⟩⟩
theorem olX.w {ol ol2 : List or_O} (h : olX ol ol2) (hw : orW ol) : orW ol2 := by
  refine ⟨by rw [h.1]; exact hw.1, fun k hk => ?_⟩
  rw [h.1] at hk
  obtain ⟨q1, q2⟩ := h.2 k hk
  obtain ⟨w1, w2⟩ := hw.2 k hk
  rw [q1]
  refine ⟨w1, ?_⟩
  rcases q2 with e | ⟨e1, e2⟩
  · rw [e]; exact w2
  · omega
theorem orZ_w {ol : List or_O} (h : orW ol) {i : Nat} (hi : i < ol.length) : orW (orZ ol i) := by
  refine ⟨by rw [orZ_len]; exact h.1, fun k hk => ?_⟩
  rw [orZ_len] at hk
  rw [orZ_at hi]
  split
  · exact ⟨(h.2 i hi).1, by show 2 < 1000; decide⟩
  · exact h.2 k hk
/-- those that wait behind a hash become due -/
def orM1 (k : Nat) (h : by_L) (x : or_O) : or_O := if x.2 = 1 ∧ subL x.1 0 32 = h then (x.1, 2 + k) else x
def orM (k : Nat) (h : by_L) (ol : List or_O) : List or_O := ol.map (orM1 k h)
theorem orM_len (k : Nat) (h : by_L) (ol : List or_O) : (orM k h ol).length = ol.length := List.length_map ..
theorem orM_at {k : Nat} {h : by_L} {ol : List or_O} {j : Nat} (hj : j < ol.length) : orL (orM k h ol) j = orM1 k h (orL ol j) := by
  have e : orL (orM k h ol) j = (orM k h ol).getD j ([], 0) := rfl
  rw [e]
  unfold orM orL
  rw [List.getD_eq_getElem?_getD, List.getElem?_map, List.getD_eq_getElem?_getD, List.getElem?_eq_getElem hj]
  rfl
theorem orM1_b (k : Nat) (h : by_L) (x : or_O) : (orM1 k h x).1 = x.1 := by unfold orM1; split <;> rfl
theorem orM1_2 {k : Nat} {h : by_L} {x : or_O} (hk : 1 ≤ k) : (orM1 k h x).2 = 2 ↔ x.2 = 2 := by
  unfold orM1
  split
  · rename_i c
    have e := c.1
    show 2 + k = 2 ↔ x.2 = 2
    omega
  · exact Iff.rfl
theorem loO_M {k : Nat} {h : by_L} (hk : 1 ≤ k) : ∀ ol, loO (orM k h ol) = loO ol := by
  intro ol
  induction ol with
  | nil => rfl
  | cons x ol ih =>
    have e : orM k h (x :: ol) = orM1 k h x :: orM k h ol := rfl
    rw [e]
    by_cases c : x.2 = 2
    · rw [loO_n c, loO_n ((orM1_2 hk).mpr c), ih]
    · rw [loO_c c, loO_c (fun q => c ((orM1_2 hk).mp q)), ih, orM1_b]
theorem orM_w {k : Nat} {h : by_L} {ol : List or_O} (hw : orW ol) (hk : k < 900) : orW (orM k h ol) := by
  refine ⟨by rw [orM_len]; exact hw.1, fun j hj => ?_⟩
  rw [orM_len] at hj
  rw [orM_at hj, orM1_b]
  refine ⟨(hw.2 j hj).1, ?_⟩
  have q := (hw.2 j hj).2
  unfold orM1
  split
  · show 2 + k < 1000; omega
  · exact q
/-- behind the mark: due behind the new block are just those that match -/
def dueX (ol : List or_O) (k : Nat) (h : by_L) : Prop := ∀ j, j < ol.length → ¬ (orL ol j).2 = 2 → (subL (orL ol j).1 0 32 = h ↔ (orL ol j).2 = 2 + k)
theorem orM_due {bl : List bk_B} {l : by_L} {ol : List or_O} (hs : stX ol bl) (hn : ¬ blF bl (haS l) < bl.length) : dueX (orM bl.length (haS l) ol) bl.length (haS l) := by
  have hne : ∀ k, k < bl.length → ¬ haS (bBy bl k) = haS l := by
    intro k hk q
    have hle := fsI_le (fun k => smS (haS (bBy bl k)) (haS l)) bl.length
    have hall := fsI_all (p := fun k => smS (haS (bBy bl k)) (haS l)) (n := bl.length) (by unfold blF at hn; omega) k hk
    exact of_decide_eq_false hall q
  intro j hj h2
  rw [orM_len] at hj
  rw [orM_at hj] at h2 ⊢
  rw [orM1_b]
  have s := hs j hj
  by_cases c : (orL ol j).2 = 1 ∧ subL (orL ol j).1 0 32 = haS l
  · have e : orM1 bl.length (haS l) (orL ol j) = ((orL ol j).1, 2 + bl.length) := if_pos c
    rw [e]
    exact ⟨fun _ => rfl, fun _ => c.2⟩
  · have e : orM1 bl.length (haS l) (orL ol j) = orL ol j := if_neg c
    rw [e] at h2 ⊢
    rcases s with s | s | ⟨q, q0, q1, q2, q3⟩
    · constructor
      · intro m; exact absurd ⟨s, m⟩ c
      · intro m
        cases bl with
        | nil => exact absurd (show (orL ol j).2 = 2 by rw [m]; rfl) h2
        | cons b bl => rw [s, List.length_cons] at m; omega
    · exact absurd s h2
    · constructor
      · intro m; rw [q3] at m; exact absurd m (hne q q1)
      · intro m; omega
theorem orM_st {bl e9 : List bk_B} {b : bk_B} {ol : List or_O} {k : Nat} {l : by_L} (hs : stX ol bl) (hk : k = bl.length) (hk1 : 1 ≤ k) (hb : b.1 = l) : stX (orM k (haS l) ol) (bl ++ [b]) := by
  intro j hj
  rw [orM_len] at hj
  rw [orM_at hj]
  have s := hs j hj
  unfold orM1
  split
  · rename_i c
    refine Or.inr (Or.inr ⟨k, hk1, by rw [bl_len1]; omega, rfl, ?_⟩)
    rw [hk, bBy_last, hb]
    exact c.2
  · rcases s with s | s | ⟨q, q0, q1, q2, q3⟩
    · exact Or.inl s
    · exact Or.inr (Or.inl s)
    · exact Or.inr (Or.inr ⟨q, q0, by rw [bl_len1]; omega, q2, by rw [bBy_app q1]; exact q3⟩)
theorem stX.ext {bl e9 : List bk_B} {ol : List or_O} (h : stX ol bl) : stX ol (bl ++ e9) := by
  intro j hj
  rcases h j hj with s | s | ⟨q, q0, q1, q2, q3⟩
  · exact Or.inl s
  · exact Or.inr (Or.inl s)
  · refine Or.inr (Or.inr ⟨q, q0, by rw [List.length_append]; omega, q2, ?_⟩)
    rw [q3]
    unfold bBy bkL
    rw [List.getD_eq_getElem?_getD, List.getD_eq_getElem?_getD, List.getElem?_append_left q1]
theorem stX.ol {bl : List bk_B} {ol ol2 : List or_O} (h : stX ol bl) (x : olX ol ol2) : stX ol2 bl := by
  intro j hj
  rw [x.1] at hj
  obtain ⟨x1, x2⟩ := x.2 j hj
  rw [x1]
  rcases x2 with e | ⟨e1, e2⟩
  · rw [e]; exact h j hj
  · exact Or.inr (Or.inl e2)
theorem stX.z {bl : List bk_B} {ol : List or_O} (h : stX ol bl) {i : Nat} (hi : i < ol.length) : stX (orZ ol i) bl := by
  intro j hj
  rw [orZ_len] at hj
  rw [orZ_at hi]
  split
  · exact Or.inr (Or.inl rfl)
  · exact h j hj
theorem dueX.ol {ol ol2 : List or_O} {k : Nat} {h : by_L} (hk : 1 ≤ k) (d : dueX ol k h) (x : olX ol ol2) : dueX ol2 k h := by
  intro j hj h2
  rw [x.1] at hj
  obtain ⟨x1, x2⟩ := x.2 j hj
  rw [x1]
  rcases x2 with e | ⟨e1, e2⟩
  · rw [e] at h2 ⊢; exact d j hj h2
  · exact absurd e2 h2
theorem dueX.z {ol : List or_O} {k : Nat} {h : by_L} (d : dueX ol k h) {i : Nat} (hi : i < ol.length) : dueX (orZ ol i) k h := by
  intro j hj h2
  rw [orZ_len] at hj
  rw [orZ_at hi] at h2 ⊢
  split
  · rename_i c; rw [if_pos c] at h2; exact absurd rfl h2
  · rename_i c; rw [if_neg c] at h2; exact d j hj h2
theorem mkO_lo (lo : List by_L) : loO (mkO lo) = lo := by
  induction lo with
  | nil => rfl
  | cons a l ih =>
    have e : mkO (a :: l) = (a, 1) :: mkO l := rfl
    rw [e, loO_c (x := (a, 1)) (show ¬ (1 : Nat) = 2 by decide), ih]
theorem st_mk (lo : List by_L) (bl : List bk_B) : stX (mkO lo) bl := by
  intro j hj
  rw [mkO_len] at hj
  rw [orL_mk lo hj]
  exact Or.inl rfl
/-- behind all: what waits still -/
theorem loO_cl {ol : List or_O} (h : ∀ j, j < ol.length → (orL ol j).2 = 1 ∨ (orL ol j).2 = 2) : ol.filter (fun x => decide (x.2 = 1)) = mkO (loO ol) := by
  induction ol with
  | nil => rfl
  | cons x ol ih =>
    have hx := h 0 (by rw [List.length_cons]; omega)
    have q := ih (fun j hj => h (j + 1) (by rw [List.length_cons]; omega))
    have hx2 : x.2 = 1 ∨ x.2 = 2 := hx
    rcases hx2 with c | c
    · rw [List.filter_cons, if_pos (decide_eq_true c), loO_c (by omega), q]
      show x :: mkO (loO ol) = (x.1, 1) :: mkO (loO ol)
      rw [← c]
    · rw [List.filter_cons, if_neg (by rw [decide_eq_false (by omega)]; decide), loO_n c, q]
