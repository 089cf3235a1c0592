/-! assemble: the bytes -/
theorem tx_len_mo {f : Nat → Int32} {a e e2 : Nat} (h : ¬ tx_len f a e = 0) (he : e ≤ e2) : tx_len f a e2 = tx_len f a e := by
  unfold tx_len at h ⊢
  by_cases c0 : e < a + 2
  · rw [if_pos c0] at h; exact absurd rfl h
  rw [if_neg c0] at h ⊢
  rw [if_neg (show ¬ e2 < a + 2 by omega)]
  by_cases c1 : 4 < bb (f a) ∨ bb (f (a + 1)) < 1 ∨ 4 < bb (f (a + 1))
  · rw [if_pos c1] at h; exact absurd rfl h
  rw [if_neg c1] at h ⊢
  rw [if_neg c1]
  by_cases c2 : e < a + tx_sz (bb (f a)) (bb (f (a + 1)))
  · rw [if_pos c2] at h; exact absurd rfl h
  rw [if_neg c2] at h ⊢
  rw [if_neg (show ¬ e2 < a + tx_sz (bb (f a)) (bb (f (a + 1))) by omega)]
theorem tx_at {f : Nat → Int32} {a e : Nat} {t : by_L} (hA : isA f a t) (hw : txW t) (he : a + t.length ≤ e) : tx_len f a e = t.length := by
  have q : tx_len f a (a + t.length) = tx_len (lf t) 0 (0 + t.length) := tx_len_c (fun i hi => by rw [Nat.zero_add]; exact hA i hi)
  rw [Nat.zero_add] at q
  have r : tx_len (lf t) 0 t.length = t.length := hw.1
  rw [r] at q
  rw [tx_len_mo (by rw [q]; exact hw.2) he, q]
/-- the transactions that are taken, one behind the other -/
def cgX (po : List po_P) : Nat → by_L
  | 0 => []
  | m + 1 => cgX po m ++ poL po (cgK (poV po) po.length m)
theorem cgX_len {po : List po_P} (hw : poW po) : ∀ m, m ≤ po.length → (cgX po m).length ≤ 358 * m := by
  intro m
  induction m with
  | zero => intro _; exact Nat.zero_le _
  | succ m ih =>
    intro hm
    have q := (cg_k (fee := poV po) (show m < po.length by omega)).2.1
    have r := (txW_len (hw.2 _ q).1).2
    have s := ih (by omega)
    show (cgX po m ++ poL po (cgK (poV po) po.length m)).length ≤ _
    rw [List.length_append]
    omega
def asH (hh : by_L) (tm bits : Int32) (n ht : Nat) (am ad : Int64) (j : Nat) : Int32 :=
  if j < 32 then lf hh j else if j < 64 then 0 else if j < 68 then sb_b (byi tm (j - 64)) else if j < 72 then sb_b (byi bits (j - 68)) else if j < 80 then 0 else if j = 80 then bI (nI (n + 1)) else if j = 81 then 0 else if j = 82 then 1 else if j < 87 then sb_b (byi (nI ht) (j - 83)) else if j < 95 then sb_b (byl am (j - 87)) else sb_b (byl ad (j - 95))
def asT (hh : by_L) (tm bits : Int32) (n ht : Nat) (am ad : Int64) (po : List po_P) : by_L := cutL (asH hh tm bits n ht am ad) 0 103 ++ cgX po n
theorem asT_len (hh : by_L) (tm bits : Int32) (n ht : Nat) (am ad : Int64) (po : List po_P) : (asT hh tm bits n ht am ad po).length = 103 + (cgX po n).length := by unfold asT; rw [List.length_append, cutL_len]
theorem lf_apl {a b : by_L} {j : Nat} (h : j < a.length) : lf (a ++ b) j = lf a j := by
  unfold lf
  rw [List.getD_eq_getElem?_getD, List.getD_eq_getElem?_getD, List.getElem?_append_left h]
theorem lf_apr {a b : by_L} {j : Nat} (h : a.length ≤ j) : lf (a ++ b) j = lf b (j - a.length) := by
  unfold lf
  rw [List.getD_eq_getElem?_getD, List.getD_eq_getElem?_getD, List.getElem?_append_right h]
theorem asT_h {hh : by_L} {tm bits : Int32} {n ht : Nat} {am ad : Int64} {po : List po_P} {j : Nat} (hj : j < 103) : lf (asT hh tm bits n ht am ad po) j = asH hh tm bits n ht am ad j := by
  unfold asT
  rw [lf_apl (by rw [cutL_len]; exact hj), lf_cutL hj, Nat.zero_add]
theorem asT_x {hh : by_L} {tm bits : Int32} {n ht : Nat} {am ad : Int64} {po : List po_P} : isA (lf (asT hh tm bits n ht am ad po)) 103 (cgX po n) := by
  intro j hj
  unfold asT
  rw [lf_apr (by rw [cutL_len]; omega), cutL_len]
  congr 1
  omega
theorem cgX_at {po : List po_P} {f : Nat → Int32} {a : Nat} : ∀ n, isA f a (cgX po n) → ∀ m, m < n → isA f (a + (cgX po m).length) (poL po (cgK (poV po) po.length m)) ∧ (cgX po m).length + (poL po (cgK (poV po) po.length m)).length ≤ (cgX po n).length := by
  intro n
  induction n with
  | zero => intro _ m hm; exact absurd hm (Nat.not_lt_zero m)
  | succ n ih =>
    intro h m hm
    have h1 : isA f a (cgX po n ++ poL po (cgK (poV po) po.length n)) := h
    have hl : (cgX po (n + 1)).length = (cgX po n).length + (poL po (cgK (poV po) po.length n)).length := List.length_append
    rcases (show m = n ∨ m < n by omega) with e | c
    · subst e
      refine ⟨fun j hj => ?_, by omega⟩
      have q := h1 ((cgX po m).length + j) (by rw [List.length_append]; omega)
      rw [lf_apr (by omega), Nat.add_sub_cancel_left, ← Nat.add_assoc] at q
      exact q
    · have q := ih (isA_apl h1) m c
      exact ⟨q.1, by omega⟩
theorem asT_W {hh : by_L} {tm bits : Int32} {ht : Nat} {am ad : Int64} {po : List po_P} (hw : poW po) (htm : ¬ tm < 0) (hht : ht < 16777216) : blW (asT hh tm bits (cgN po) ht am ad po) := by
  have hn7 : cgN po ≤ 7 := Nat.min_le_left _ _
  have hnl : cgN po ≤ po.length := Nat.min_le_right _ _
  have hl := asT_len hh tm bits (cgN po) ht am ad po
  have hx := asT_x (hh := hh) (tm := tm) (bits := bits) (n := cgN po) (ht := ht) (am := am) (ad := ad) (po := po)
  have b64 : bb (lf (asT hh tm bits (cgN po) ht am ad po) 64) < 128 := by
    rw [asT_h (by decide)]
    show bb (sb_b (byi tm 0)) < 128
    rw [bb_sb (byi_lt _ _)]
    have q := un_nn htm
    unfold byi
    omega
  have b80 : bb (lf (asT hh tm bits (cgN po) ht am ad po) 80) = cgN po + 1 := by
    rw [asT_h (by decide)]
    show bb (bI (nI (cgN po + 1))) = _
    unfold bI
    rw [bb_i8, bb_i8, bb_nI (by omega)]
  have b81 : bb (lf (asT hh tm bits (cgN po) ht am ad po) 81) = 0 := by rw [asT_h (by decide)]; rfl
  have b82 : bb (lf (asT hh tm bits (cgN po) ht am ad po) 82) = 1 := by rw [asT_h (by decide)]; rfl
  have b83 : bb (lf (asT hh tm bits (cgN po) ht am ad po) 83) < 128 := by
    rw [asT_h (by decide)]
    show bb (sb_b (byi (nI ht) 0)) < 128
    rw [bb_sb (byi_lt _ _)]
    unfold byi
    rw [un_nI (by omega)]
    omega
  have t0 : tx_len (lf (asT hh tm bits (cgN po) ht am ad po)) 81 (asT hh tm bits (cgN po) ht am ad po).length = 22 := by
    have q := tx_5 (e := (asT hh tm bits (cgN po) ht am ad po).length) b81 b82 (by omega) (by omega) (by show 81 + 22 ≤ _; omega) (fun _ => b83) rfl
    exact q
  have st : ∀ m, m ≤ cgN po → bk_st (lf (asT hh tm bits (cgN po) ht am ad po)) (asT hh tm bits (cgN po) ht am ad po).length (m + 1) = 103 + (cgX po m).length ∧ bk_ok (lf (asT hh tm bits (cgN po) ht am ad po)) (asT hh tm bits (cgN po) ht am ad po).length (m + 1) = true := by
    intro m
    induction m with
    | zero =>
      intro _
      refine ⟨?_, ?_⟩
      · show 81 + tx_len (lf (asT hh tm bits (cgN po) ht am ad po)) 81 (asT hh tm bits (cgN po) ht am ad po).length = 103 + 0
        rw [t0]
      · show (true && decide (¬ tx_len (lf (asT hh tm bits (cgN po) ht am ad po)) 81 (asT hh tm bits (cgN po) ht am ad po).length = 0)) = true
        rw [Bool.true_and]
        exact decide_eq_true (by rw [t0]; decide)
    | succ m ih =>
      intro hm
      obtain ⟨q1, q2⟩ := ih (by omega)
      have ck := (cg_k (fee := poV po) (show m < po.length by omega)).2.1
      have ta := cgX_at (cgN po) hx m (by omega)
      have tl := tx_at (e := (asT hh tm bits (cgN po) ht am ad po).length) ta.1 (hw.2 _ ck).1 (by omega)
      have tw := (txW_len (hw.2 _ ck).1).1
      have e1 : bk_st (lf (asT hh tm bits (cgN po) ht am ad po)) (asT hh tm bits (cgN po) ht am ad po).length (m + 1 + 1) = bk_st (lf (asT hh tm bits (cgN po) ht am ad po)) (asT hh tm bits (cgN po) ht am ad po).length (m + 1) + tx_len (lf (asT hh tm bits (cgN po) ht am ad po)) (bk_st (lf (asT hh tm bits (cgN po) ht am ad po)) (asT hh tm bits (cgN po) ht am ad po).length (m + 1)) (asT hh tm bits (cgN po) ht am ad po).length := rfl
      have e2 : bk_ok (lf (asT hh tm bits (cgN po) ht am ad po)) (asT hh tm bits (cgN po) ht am ad po).length (m + 1 + 1) = (bk_ok (lf (asT hh tm bits (cgN po) ht am ad po)) (asT hh tm bits (cgN po) ht am ad po).length (m + 1) && decide (¬ tx_len (lf (asT hh tm bits (cgN po) ht am ad po)) (bk_st (lf (asT hh tm bits (cgN po) ht am ad po)) (asT hh tm bits (cgN po) ht am ad po).length (m + 1)) (asT hh tm bits (cgN po) ht am ad po).length = 0)) := rfl
      rw [e1, e2, q1, q2, tl]
      refine ⟨?_, ?_⟩
      · show _ = 103 + (cgX po m ++ poL po (cgK (poV po) po.length m)).length
        rw [List.length_append]; omega
      · rw [Bool.true_and]; exact decide_eq_true (by omega)
  have fin := st (cgN po) (Nat.le_refl _)
  unfold blW bkN bk_n
  rw [if_neg (by omega), if_neg (by omega), b80, if_neg (by omega), if_pos ⟨fin.2, by rw [fin.1]; omega⟩]
  omega
/-- the ROOT's bytes don't count -/
theorem bk_32 {T1 T : by_L} (hl : T1.length = T.length) (h : ∀ j, j < T.length → ¬ (32 ≤ j ∧ j < 64) → lf T1 j = lf T j) : bkN T1 = bkN T ∧ (∀ k, bkS T1 k = bkS T k) := by
  have tl : ∀ a, 81 ≤ a → tx_len (lf T1) a T.length = tx_len (lf T) a T.length := by
    intro a ha
    rcases Nat.lt_or_ge T.length (a + 2) with c | c
    · rw [tx_0 c, tx_0 c]
    · have q := tx_len_c (f := lf T1) (g := lf T) (a := a) (b := a) (n := T.length - a) (fun i hi => h (a + i) (by omega) (by omega))
      rw [show a + (T.length - a) = T.length by omega] at q
      exact q
  have st : ∀ k, bk_st (lf T1) T.length k = bk_st (lf T) T.length k ∧ bk_ok (lf T1) T.length k = bk_ok (lf T) T.length k ∧ 81 ≤ bk_st (lf T) T.length k := by
    intro k
    induction k with
    | zero => exact ⟨rfl, rfl, Nat.le_refl _⟩
    | succ k ih =>
      obtain ⟨i1, i2, i3⟩ := ih
      simp only [bk_st, bk_ok]
      rw [i1, i2, tl _ i3]
      exact ⟨rfl, rfl, by omega⟩
  refine ⟨?_, fun k => by unfold bkS; rw [hl]; exact (st k).1⟩
  unfold bkN bk_n
  rw [hl]
  by_cases c : T.length < 81
  · rw [if_pos c, if_pos c]
  · rw [if_neg c, if_neg c, h 64 (by omega) (by omega), h 80 (by omega) (by omega), (st _).1, (st _).2.1]
theorem rtF_c : ∀ m {g g2 : Nat → by_L} {n : Nat}, 1 ≤ n → (∀ q, q < n → g q = g2 q) → rtF m g n = rtF m g2 n := by
  intro m
  induction m with
  | zero => intro g g2 n hn h; exact h 0 (by omega)
  | succ m ih =>
    intro g g2 n hn h
    unfold rtF
    by_cases c : n ≤ 1
    · rw [if_pos c, if_pos c]; exact h 0 (by omega)
    · rw [if_neg c, if_neg c]
      refine ih (by omega) (fun q hq => ?_)
      show (if 2 * q + 1 < n then pr2 (g (2 * q)) (g (2 * q + 1)) else g (2 * q)) = (if 2 * q + 1 < n then pr2 (g2 (2 * q)) (g2 (2 * q + 1)) else g2 (2 * q))
      by_cases d : 2 * q + 1 < n
      · rw [if_pos d, if_pos d, h (2 * q) (by omega), h (2 * q + 1) d]
      · rw [if_neg d, if_neg d, h (2 * q) (by omega)]
theorem rp_32 {T1 T : by_L} (hl : T1.length = T.length) (hw : blW T) (h : ∀ j, j < T.length → ¬ (32 ≤ j ∧ j < 64) → lf T1 j = lf T j) : rpS T1 = rpS T := by
  obtain ⟨e1, e2⟩ := bk_32 hl h
  have hf := hw.f
  have et : ∀ q, q < bkN T → bkT T1 q = bkT T q := by
    intro q hq
    unfold bkT
    rw [e2, e2]
    unfold subL
    have t := hw.t hq
    unfold cutL
    refine List.map_congr_left (fun j hj => ?_)
    have hj2 := List.mem_range.mp hj
    exact h _ (by omega) (by omega)
  have er : rtS T1 = rtS T := by
    unfold rtS
    rw [e1]
    exact rtF_c 8 hf.2.2.2.1 (fun q hq => by show hhS (bkT T1 q) = hhS (bkT T q); rw [et q hq])
  unfold rpS
  rw [hl, er]
  refine cutL_c (fun j hj => ?_)
  by_cases c : 32 ≤ j ∧ j < 64
  · rw [if_pos c, if_pos c]
  · rw [if_neg c, if_neg c, h j hj c]
