/-! to keep a block: the pure side -/
/-- blocks, tip, next record, fuse, disk, pool, lost ones, messages -/
abbrev ks_S : Type := List bk_B × Nat × Nat × Option Nat × (Nat → Int32) × List po_P × List by_L × mq_S
def ksB (S : ks_S) : List bk_B := S.1
def ksT (S : ks_S) : Nat := S.2.1
def ksN (S : ks_S) : Nat := S.2.2.1
def ksF (S : ks_S) : Option Nat := S.2.2.2.1
def ksD (S : ks_S) : Nat → Int32 := S.2.2.2.2.1
def ksP (S : ks_S) : List po_P := S.2.2.2.2.2.1
def ksL (S : ks_S) : List by_L := S.2.2.2.2.2.2.1
def ksQ (S : ks_S) : mq_S := S.2.2.2.2.2.2.2
/-- what holds of it -/
def ksI (S : ks_S) : Prop := blI (ksB S) (ksN S) ∧ ksT S < (ksB S).length ∧ (∀ q, ksF S = some q → q < 2 ^ 31) ∧ poW (ksP S) ∧ loW (ksL S)
def kpB (S : ks_S) (l : by_L) : List bk_B := ksB S ++ [bkN_ (ksB S) (enB (ksB S)) l (pvF (ksB S) l)]
def kpT (S : ks_S) (l : by_L) : Nat := tipN (ksB S) l (pvF (ksB S) l) (ksT S)
def kpP (S : ks_S) (l : by_L) : List po_P := if kpT S l = ksT S then ksP S else pnS (kpB S l) (enB (kpB S l)) (kpT S l) (ksT S) (ksP S)
/-- the record is written -/
def kp1 (nn : Nat) (dl : Nat → Nat) (now : Int32) (v : Nat) (fr : Int32) (S : ks_S) (l : by_L) : ks_S := (kpB S l, kpT S l, ksN S + l.length + 6, fzN (ksF S) (l.length + 6), dkW (ksD S) (ksN S) (rcS l (ksN S)) (ksF S), kpP S l, ksL S, tlQ dl now v fr (nI 1) (haS l) nn (ksQ S))
/-- the fuse ended -/
def kp0 (S : ks_S) (l : by_L) : ks_S := (ksB S, ksT S, ksN S, fzN (ksF S) (l.length + 6), dkW (ksD S) (ksN S) (rcS l (ksN S)) (ksF S), ksP S, ksL S, ksQ S)
def ksE (S : ks_S) (k : Nat) : ks_S := (ksB S, ksT S, ksN S, ksF S, ksD S, ksP S, (ksL S).eraseIdx k, ksQ S)
def ksJ (S : ks_S) (l : by_L) : Nat := jBk (ksB S) (enB (ksB S)) l (nrB (ksN S) l.length true)
/-- the lost ones behind a hash -/
def kpL (rec : ks_S → by_L → ks_S × Bool) (h : by_L) : Nat → ks_S → ks_S × Bool
  | 0, S => (S, true)
  | m + 1, S => if loF (ksL S) h < (ksL S).length then
      (if ksJ S (rowL (ksL S) (loF (ksL S) h)) = 0 then
        (if (rec (ksE S (loF (ksL S) h)) (rowL (ksL S) (loF (ksL S) h))).2 = true then kpL rec h m (rec (ksE S (loF (ksL S) h)) (rowL (ksL S) (loF (ksL S) h))).1
         else ((rec (ksE S (loF (ksL S) h)) (rowL (ksL S) (loF (ksL S) h))).1, false))
       else kpL rec h m (ksE S (loF (ksL S) h)))
    else (S, true)
def kp (nn : Nat) (dl : Nat → Nat) (now : Int32) (v : Nat) (fr : Int32) : Nat → ks_S → by_L → ks_S × Bool
  | 0, S, _ => (S, true)
  | f + 1, S, l => if fzO (ksF S) (l.length + 6) = true then kpL (kp nn dl now v fr f) (haS l) 8 (kp1 nn dl now v fr S l) else (kp0 S l, false)
/-- what stays of a state -/
def ksX (S R : ks_S) : Prop := (∃ e, ksB R = ksB S ++ e) ∧ (ksL R).length ≤ (ksL S).length ∧ ksI R
theorem ksX.tr {S R Q : ks_S} (h : ksX S R) (h2 : ksX R Q) : ksX S Q := by
  obtain ⟨⟨e1, a1⟩, a2, a3⟩ := h
  obtain ⟨⟨e2, b1⟩, b2, b3⟩ := h2
  exact ⟨⟨e1 ++ e2, by rw [b1, a1, List.append_assoc]⟩, by omega, b3⟩
theorem nrB_f {nx n : Nat} (h : nrB nx n true = false) : nx + n + 8 ≤ 12288 := by
  unfold nrB at h
  rw [Bool.true_and] at h
  have q := of_decide_eq_false h
  omega
theorem ksE_X {S : ks_S} (h : ksI S) {k : Nat} (hk : k < (ksL S).length) : ksX S (ksE S k) ∧ (ksL (ksE S k)).length + 1 = (ksL S).length := by
  obtain ⟨a1, a2, a3, a4, a5⟩ := h
  have e : (ksL (ksE S k)).length = (ksL S).length - 1 := er_len hk
  exact ⟨⟨⟨[], (List.append_nil _).symm⟩, by omega, a1, a2, a3, a4, a5.er hk⟩, by omega⟩
theorem fzN_lt {fz : Option Nat} {m : Nat} (h : ∀ q, fz = some q → q < 2 ^ 31) : ∀ q, fzN fz m = some q → q < 2 ^ 31 := by
  intro q hq
  cases fz with
  | none => cases hq
  | some k =>
    have r := h k rfl
    have e : k - m = q := Option.some.inj hq
    omega
theorem kpP_w {S : ks_S} {l : by_L} (h : poW (ksP S)) : poW (kpP S l) := by
  unfold kpP
  split
  · exact h
  · exact poW_S
theorem kp1_X {nn : Nat} {dl : Nat → Nat} {now : Int32} {v : Nat} {fr : Int32} {S : ks_S} {l : by_L} (h : ksI S) (hj : ksJ S l = 0) : ksX S (kp1 nn dl now v fr S l) := by
  obtain ⟨a1, a2, a3, a4, a5⟩ := h
  have hr := nrB_f (jBk_0 hj).2.2.2.2.2
  exact ⟨⟨_, rfl⟩, Nat.le_refl _, a1.app hj (by omega), tipN_lt a2, fzN_lt a3, kpP_w a4, a5⟩
theorem kp0_X {S : ks_S} {l : by_L} (h : ksI S) : ksX S (kp0 S l) := by
  obtain ⟨a1, a2, a3, a4, a5⟩ := h
  exact ⟨⟨[], (List.append_nil _).symm⟩, Nat.le_refl _, a1, a2, fzN_lt a3, a4, a5⟩
theorem ksJ_E (S : ks_S) (k : Nat) (l : by_L) : ksJ (ksE S k) l = ksJ S l := rfl
theorem kpL_X {rec : ks_S → by_L → ks_S × Bool} {h : by_L} (hrec : ∀ S l, ksI S → ksJ S l = 0 → ksX S (rec S l).1) : ∀ m S, ksI S → ksX S (kpL rec h m S).1 := by
  intro m
  induction m with
  | zero => intro S hS; exact ⟨⟨[], (List.append_nil _).symm⟩, Nat.le_refl _, hS⟩
  | succ m ih =>
    intro S hS
    unfold kpL
    split
    · rename_i c
      have q := ksE_X hS c
      split
      · rename_i c2
        have r := hrec _ (rowL (ksL S) (loF (ksL S) h)) q.1.2.2 c2
        split
        · exact (q.1.tr r).tr (ih _ r.2.2)
        · exact q.1.tr r
      · exact q.1.tr (ih _ q.1.2.2)
    · exact ⟨⟨[], (List.append_nil _).symm⟩, Nat.le_refl _, hS⟩
theorem kp_X {nn : Nat} {dl : Nat → Nat} {now : Int32} {v : Nat} {fr : Int32} : ∀ f S l, ksI S → ksJ S l = 0 → ksX S (kp nn dl now v fr f S l).1 := by
  intro f
  induction f with
  | zero => intro S l hS _; exact ⟨⟨[], (List.append_nil _).symm⟩, Nat.le_refl _, hS⟩
  | succ f ih =>
    intro S l hS hj
    unfold kp
    split
    · have q := kp1_X (nn := nn) (dl := dl) (now := now) (v := v) (fr := fr) hS hj
      exact q.tr (kpL_X ih 8 _ q.2.2)
    · exact kp0_X hS
theorem kpL_nil {rec : ks_S → by_L → ks_S × Bool} {h : by_L} {S : ks_S} (e : (ksL S).length = 0) : ∀ m, kpL rec h m S = (S, true) := by
  intro m
  cases m with
  | zero => rfl
  | succ m => unfold kpL; rw [if_neg (by omega)]
theorem coC_app {bl : List bk_B} {en : List en_E} {b : bk_B} {e : en_E} (hw : wfE en) (hl : en.length = bl.length) {k : Nat} (hk : k < bl.length) : ∀ x, x ≤ eH en k + 1 → coC (bl ++ [b]) (en ++ [e]) k x = coC bl en k x := by
  intro x
  induction x with
  | zero => intro _; rfl
  | succ x ih =>
    intro hx
    have hc := chE_h hw (tip := k) (x := x) (by omega) (by omega)
    simp only [coC]
    rw [chE_app hw (by omega), ih (by omega), bBy_app (by omega)]
theorem coAt_app {bl : List bk_B} {en : List en_E} {b : bk_B} {e : en_E} (hw : wfE en) (hl : en.length = bl.length) {k : Nat} (hk : k < bl.length) : coAt (bl ++ [b]) (en ++ [e]) k = coAt bl en k := by
  unfold coAt
  rw [eH_app (by omega), coC_app hw hl hk _ (Nat.le_refl _)]
