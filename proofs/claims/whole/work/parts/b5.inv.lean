/-! what holds of the stored blocks, always -/
/-- blocks, and the place of the next record -/
def blI (bl : List bk_B) (nx : Nat) : Prop := 0 < bl.length ∧ (bBy bl 0).length = 103 ∧ nx + 109 = offL (bl.map Prod.fst) bl.length + 6 * bl.length ∧ nx ≤ 12288 ∧ wfE (enB bl) ∧ blX bl ∧ hdX bl ∧ (∀ k, k < bl.length → rwS (bBy bl k) = true) ∧ ∀ k, k < bl.length → bTo bl k ≤ (k + 1) * 2 ^ 233
theorem enB_len (bl : List bk_B) : (enB bl).length = bl.length := List.length_map ..
theorem enL_B {bl : List bk_B} {k : Nat} (h : k < bl.length) : enL (enB bl) k = enOf (bkL bl k) := by
  unfold enL enB bkL
  rw [List.getD_eq_getElem?_getD, List.getElem?_map, List.getD_eq_getElem?_getD, List.getElem?_eq_getElem h]
  rfl
theorem fsI_all {p : Nat → Bool} {n : Nat} (h : fsI p n = n) : ∀ j, j < n → p j = false := by
  intro j
  induction j using Nat.strongRecOn with
  | ind j ih =>
    intro hj
    cases e : p j with
    | false => rfl
    | true =>
      have q := fsI_at (p := p) (i := j) e (fun i hi => ih i hi (by omega)) n hj
      omega
theorem rwS_t {l : by_L} (h : rwS l = true) {j : Nat} (hj : j < bkN l) : txI (bkT l j) = 0 ↔ j = 0 := by
  have q := fsI_all (of_decide_eq_true h) j hj
  exact Decidable.not_not.mp (of_decide_eq_false q)
theorem coTs_len {l : by_L} {h : Nat} {cs : List co_C} (hW : blW l) (hr : rwS l = true) : ∀ j, j ≤ bkN l → 139 * (coTs l h cs j).length ≤ 139 * cs.length + 4 * (bkS l j + 6) := by
  intro j
  induction j with
  | zero => intro _; show 139 * cs.length ≤ _; omega
  | succ j ih =>
    intro hj
    obtain ⟨t1, t2, t3, t4, t5⟩ := hW.t (j := j) (by omega)
    obtain ⟨w1, w2, w3, w4, w5⟩ := txW_sz t2
    have q := ih (by omega)
    have e : (coTs l h cs (j + 1)).length ≤ (coTs l h cs j).length + txO (bkT l j) := by
      show (coAp (coTs l h cs j) (bkT l j) (idS (bkT l j)) h).length ≤ _
      unfold coAp
      rw [coAd_len]
      have q := coSp_len (bkT l j) (coTs l h cs j) (txI (bkT l j))
      omega
    rw [t1]
    have ei := rwS_t hr (j := j) (by omega)
    unfold tx_oa at w4
    by_cases c : j = 0
    · have e0 : (coTs l h cs j).length = cs.length := by rw [c]; rfl
      have eb : bkS l j = 81 := by rw [c]; rfl
      rw [if_pos (ei.mpr c)] at w4
      omega
    · have e0 : ¬ txI (bkT l j) = 0 := fun x => c (ei.mp x)
      rw [if_neg e0] at w4
      omega
theorem coTs_ht {l : by_L} {h : Nat} {cs : List co_C} (hc : coHt cs) (hh : h < 100000) : ∀ j, coHt (coTs l h cs j) := by
  intro j
  induction j with
  | zero => exact hc
  | succ j ih => exact ih.ap hh
def bT (bl : List bk_B) (i : Nat) : Nat := offL (bl.map Prod.fst) i + 6 * i
theorem bT_st (bl : List bk_B) (i : Nat) : bT bl (i + 1) = bT bl i + (bBy bl i).length + 6 := by
  unfold bT
  simp only [offL]
  rw [rowL_bl]
  omega
theorem bT_mono (bl : List bk_B) {i j : Nat} (h : i ≤ j) : bT bl i ≤ bT bl j := by
  unfold bT
  have q := offL_mono (bl.map Prod.fst) j i h
  omega
theorem bT_low {bl : List bk_B} (h : blX bl) : ∀ i, i ≤ bl.length → 109 * i ≤ bT bl i := by
  intro i
  induction i with
  | zero => intro _; exact Nat.zero_le _
  | succ i ih =>
    intro hi
    have q := ih (by omega)
    have r := (h i (by omega)).len
    rw [bT_st]
    omega
theorem blI.top {bl : List bk_B} {nx : Nat} (h : blI bl nx) : bT bl bl.length ≤ 12397 ∧ bl.length ≤ 113 ∧ bT bl bl.length = nx + 109 := by
  obtain ⟨a1, a2, a3, a4, a5, a6, -⟩ := h
  have q := bT_low a6 bl.length (Nat.le_refl _)
  have e : bT bl bl.length = nx + 109 := a3.symm
  exact ⟨by omega, by omega, e⟩
theorem blI.co {bl : List bk_B} {nx : Nat} (h : blI bl nx) {k : Nat} (hk : k < bl.length) : ∀ x, x ≤ eH (enB bl) k + 1 → 139 * (coC bl (enB bl) k x).length ≤ 4 * bT bl (if x = 0 then 0 else chE (enB bl) k (x - 1) + 1) := by
  obtain ⟨a1, a2, a3, a4, a5, a6, a7, a8, a9⟩ := h
  intro x
  induction x with
  | zero => intro _; exact Nat.zero_le _
  | succ x ih =>
    intro hx
    have q := ih (by omega)
    rw [if_neg (by omega), Nat.add_sub_cancel]
    have hc := chE_h a5 (tip := k) (x := x) (by rw [enB_len]; exact hk) (by omega)
    have hW := a6 (chE (enB bl) k x) (by omega)
    have e := coTs_len (h := x) (cs := coC bl (enB bl) k x) hW (a8 (chE (enB bl) k x) (by omega)) _ (Nat.le_refl _)
    rw [hW.f.2.2.2.2.2.2] at e
    rw [bT_st]
    show 139 * (coTs (bBy bl (chE (enB bl) k x)) x (coC bl (enB bl) k x) (bkN (bBy bl (chE (enB bl) k x)))).length ≤ _
    have m : bT bl (if x = 0 then 0 else chE (enB bl) k (x - 1) + 1) ≤ bT bl (chE (enB bl) k x) := by
      by_cases c : x = 0
      · rw [if_pos c]; exact bT_mono bl (Nat.zero_le _)
      · rw [if_neg c]
        refine bT_mono bl ?_
        have r := a5.lt (k := k) (by rw [enB_len]; exact hk) (i := eH (enB bl) k - x) (j := eH (enB bl) k - (x - 1)) (by omega) (by omega)
        exact r
    omega
theorem blI.cb {bl : List bk_B} {nx : Nat} (h : blI bl nx) {k : Nat} (hk : k < bl.length) : cbX bl (enB bl) k ∧ (coAt bl (enB bl) k).length ≤ 360 ∧ coHt (coAt bl (enB bl) k) := by
  have ht := h.top
  have hco := h.co hk
  obtain ⟨a1, a2, a3, a4, a5, a6, a7, a8, a9⟩ := h
  have hk2 : k < (enB bl).length := by rw [enB_len]; exact hk
  have hek := a5.ht hk2
  refine ⟨fun x hx j hj => ?_, ?_, ?_⟩
  · have q := hco x (by omega)
    have hc := chE_h a5 (tip := k) (x := x) hk2 hx
    have hW := a6 (chE (enB bl) k x) (by omega)
    have e := coTs_len (h := x) (cs := coC bl (enB bl) k x) hW (a8 (chE (enB bl) k x) (by omega)) j hj
    have sj : bkS (bBy bl (chE (enB bl) k x)) j ≤ (bBy bl (chE (enB bl) k x)).length := by
      cases j with
      | zero => have r := hW.f.1; show 81 ≤ _; exact r
      | succ j => exact (hW.t (j := j) (by omega)).2.2.2.1
    have m : bT bl (if x = 0 then 0 else chE (enB bl) k (x - 1) + 1) ≤ bT bl (chE (enB bl) k x) := by
      by_cases c : x = 0
      · rw [if_pos c]; exact bT_mono bl (Nat.zero_le _)
      · rw [if_neg c]
        refine bT_mono bl ?_
        have r := a5.lt (k := k) hk2 (i := eH (enB bl) k - x) (j := eH (enB bl) k - (x - 1)) (by omega) (by omega)
        exact r
    have s := bT_st bl (chE (enB bl) k x)
    have m2 := bT_mono bl (show chE (enB bl) k x + 1 ≤ bl.length by omega)
    omega
  · have q := hco (eH (enB bl) k + 1) (Nat.le_refl _)
    rw [if_neg (by omega), Nat.add_sub_cancel] at q
    have hc := chE_h a5 (tip := k) (x := eH (enB bl) k) hk2 (Nat.le_refl _)
    have m2 := bT_mono bl (show chE (enB bl) k (eH (enB bl) k) + 1 ≤ bl.length by omega)
    unfold coAt
    omega
  · have s : ∀ x, x ≤ eH (enB bl) k + 1 → coHt (coC bl (enB bl) k x) := by
      intro x
      induction x with
      | zero => intro _ c hc; exact absurd hc (List.not_mem_nil)
      | succ x ih => intro hx; exact coTs_ht (ih (by omega)) (by omega) _
    exact s _ (Nat.le_refl _)
theorem blI.p {bl : List bk_B} {nx tip : Nat} (h : blI bl nx) (ht : tip < bl.length) : blP bl (enB bl) tip := by
  have q := h.top
  have c := fun k (hk : k < bl.length) => h.cb hk
  obtain ⟨a1, a2, a3, a4, a5, a6, a7, a8, a9⟩ := h
  exact ⟨q.2.1, enB_len bl, a5, a6, ht, fun k hk => (c k hk).1, fun k hk => (c k hk).2, a7⟩
theorem jBk_0 {bl : List bk_B} {en : List en_E} {l : by_L} {nr : Bool} (e : jBk bl en l nr = 0) : blW l ∧ ¬ blF bl (haS l) < bl.length ∧ wkS (hdS l) = true ∧ rwS l = true ∧ pvF bl l < bl.length ∧ nr = false := by
  unfold jBk at e
  split at e
  · cases e
  · rename_i c1
    split at e
    · cases e
    · rename_i c2
      split at e
      · cases e
      · rename_i c3
        split at e
        · cases e
        · split at e
          · cases e
          · rename_i c5
            split at e
            · cases e
            · rename_i c6
              split at e
              · cases e
              · split at e
                · cases e
                · split at e
                  · cases e
                  · split at e
                    · cases e
                    · rename_i c10
                      refine ⟨c1, c2, ?_, ?_, Decidable.not_not.mp c6, ?_⟩
                      · cases q : wkS (hdS l) with
                        | true => rfl
                        | false => exact absurd q c3
                      · cases q : rwS l with
                        | true => rfl
                        | false => exact absurd q c5
                      · cases q : nr with
                        | false => rfl
                        | true => exact absurd ⟨e, q⟩ c10
theorem wkS_R {l : by_L} (h : wkS (hdS l) = true) : tgR (bn_int (lf l) 68) = true := by
  unfold wkS at h
  rw [hdS_68] at h
  exact (Bool.and_eq_true_iff.mp h).1
theorem wkN_le {t : Int32} (h : tgR t = true) : wkN t ≤ 2 ^ 233 := by
  have q := of_decide_eq_true h
  have hT : 2 ^ 23 ≤ tgT t := by
    unfold tgT
    have q1 : 256 ^ 1 ≤ 256 ^ (tgE t - 3) := Nat.pow_le_pow_right (by decide) (by omega)
    have q2 := Nat.mul_le_mul q.2.2.1 q1
    exact Nat.le_trans (by decide) q2
  unfold wkN
  rw [Nat.div_le_iff_le_mul_add_pred (by omega)]
  have q3 : 2 ^ 23 * 2 ^ 233 ≤ (tgT t + 1) * 2 ^ 233 := Nat.mul_le_mul_right _ (by omega)
  have q4 : (2 : Nat) ^ 23 * 2 ^ 233 = 2 ^ 256 := by rw [← Nat.pow_add]
  rw [q4] at q3
  exact Nat.le_trans q3 (Nat.le_add_right _ _)
theorem blI.to {bl : List bk_B} {nx p : Nat} {l : by_L} (h : blI bl nx) (hp : p < bl.length) (hR : tgR (bn_int (lf l) 68) = true) : bTo bl p + wkN (bn_int (lf l) 68) ≤ (p + 2) * 2 ^ 233 ∧ bTo bl p + wkN (bn_int (lf l) 68) < 4294967296 ^ 8 := by
  have ht := h.top.2.1
  obtain ⟨a1, a2, a3, a4, a5, a6, a7, a8, a9⟩ := h
  have q1 := a9 p hp
  have q2 := wkN_le hR
  have e : (p + 2) * 2 ^ 233 = (p + 1) * 2 ^ 233 + 2 ^ 233 := by rw [show p + 2 = (p + 1) + 1 by omega, Nat.add_mul, Nat.one_mul]
  refine ⟨by rw [e]; exact Nat.add_le_add q1 q2, ?_⟩
  have q3 : (p + 2) * 2 ^ 233 ≤ 115 * 2 ^ 233 := Nat.mul_le_mul_right _ (by omega)
  have q4 : 115 * 2 ^ 233 < 4294967296 ^ 8 := by decide
  exact Nat.lt_of_le_of_lt (Nat.le_trans (by rw [e]; exact Nat.add_le_add q1 q2) q3) q4
theorem map_app1 (bl : List bk_B) (b : bk_B) : (bl ++ [b]).map Prod.fst = bl.map Prod.fst ++ [b.1] := List.map_append ..
theorem enB_app (bl : List bk_B) (en : List en_E) (l : by_L) (p : Nat) : enB (bl ++ [bkN_ bl en l p]) = enB bl ++ [enN_ en l p] := List.map_append ..
theorem bl_len1 (bl : List bk_B) (b : bk_B) : (bl ++ [b]).length = bl.length + 1 := by rw [List.length_append]; rfl
theorem bBy_app {bl : List bk_B} {b : bk_B} {k : Nat} (h : k < bl.length) : bBy (bl ++ [b]) k = bBy bl k := by unfold bBy; rw [bkL_app h]
theorem bBy_last {bl : List bk_B} {b : bk_B} : bBy (bl ++ [b]) bl.length = b.1 := by unfold bBy; rw [bkL_last]
theorem blI.app {bl : List bk_B} {nx : Nat} {l : by_L} {nr : Bool} (h : blI bl nx) (e : jBk bl (enB bl) l nr = 0) (hr : nx + l.length + 6 ≤ 12288) : blI (bl ++ [bkN_ bl (enB bl) l (pvF bl l)]) (nx + l.length + 6) := by
  obtain ⟨hW, hkn, hwk, hrw, hpv, -⟩ := jBk_0 e
  have hR := wkS_R hwk
  have hto := (h.to hpv hR).1
  obtain ⟨a1, a2, a3, a4, a5, a6, a7, a8, a9⟩ := h
  have cas : ∀ k, k < bl.length + 1 → k < bl.length ∨ k = bl.length := fun k hk => by omega
  refine ⟨by rw [bl_len1]; omega, by rw [bBy_app a1]; exact a2, ?_, hr, ?_, ?_, ?_, ?_, ?_⟩
  · rw [bl_len1, map_app1]
    have el : (bl.map Prod.fst).length = bl.length := List.length_map ..
    simp only [offL]
    rw [offL_app (by omega)]
    have er := rowL_last (L := bl.map Prod.fst) (t := (bkN_ bl (enB bl) l (pvF bl l)).1)
    rw [el] at er
    rw [er]
    show nx + l.length + 6 + 109 = offL (bl.map Prod.fst) bl.length + l.length + 6 * (bl.length + 1)
    omega
  · rw [enB_app]
    exact wfE_app a5 (by rw [enB_len]; exact hpv) rfl (tm_pos hW.f.2.1) hR
  · intro k hk
    rw [bl_len1] at hk
    rcases cas k hk with c | c
    · rw [bBy_app c]; exact a6 k c
    · rw [c, bBy_last]; exact hW
  · have hne : ∀ k, k < bl.length → ¬ haS (bBy bl k) = haS l := by
      intro k hk q
      have hle := fsI_le (fun k => smS (haS (bBy bl k)) (haS l)) bl.length
      have hall := fsI_all (p := fun k => smS (haS (bBy bl k)) (haS l)) (n := bl.length) (by unfold blF at hkn; omega) k hk
      exact of_decide_eq_false hall q
    intro i j hi hj q
    rw [bl_len1] at hi hj
    rcases cas i hi with c | c
    · rcases cas j hj with d | d
      · rw [bBy_app c, bBy_app d] at q; exact a7 i j c d q
      · rw [bBy_app c, d, bBy_last] at q; exact absurd q (hne i c)
    · rcases cas j hj with d | d
      · rw [c, bBy_last, bBy_app d] at q; exact absurd q.symm (hne j d)
      · omega
  · intro k hk
    rw [bl_len1] at hk
    rcases cas k hk with c | c
    · rw [bBy_app c]; exact a8 k c
    · rw [c, bBy_last]; exact hrw
  · intro k hk
    rw [bl_len1] at hk
    rcases cas k hk with c | c
    · have et : bTo (bl ++ [bkN_ bl (enB bl) l (pvF bl l)]) k = bTo bl k := by unfold bTo; rw [bkL_app c]
      rw [et]; exact a9 k c
    · have et : bTo (bl ++ [bkN_ bl (enB bl) l (pvF bl l)]) k = bTo bl (pvF bl l) + wkN (bn_int (lf l) 68) := by unfold bTo; rw [c, bkL_last]; rfl
      rw [et]
      exact Nat.le_trans hto (Nat.mul_le_mul_right _ (by omega))
theorem tipN_lt {bl : List bk_B} {l : by_L} {p tip : Nat} {b : bk_B} (h : tip < bl.length) : tipN bl l p tip < (bl ++ [b]).length := by
  rw [bl_len1]
  unfold tipN
  split <;> omega
