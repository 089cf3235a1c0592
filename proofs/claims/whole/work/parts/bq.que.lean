/-! what a queue gets: only new messages, none of this tick -/
def msG (nn : Nat) (m : ms_M) : Prop := (∃ a, a < nn ∧ m.1 = nI a) ∧ (∃ b, b < nn ∧ m.2.1 = nI b) ∧ (∃ kd, 1 ≤ kd ∧ kd ≤ 6 ∧ m.2.2.1 = nI kd) ∧ m.2.2.2.2.length ≤ 4000
def qE (nn : Nat) (now : Int32) (s s2 : mq_S) : Prop := ∃ ex, s2.1 = s.1 ++ ex ∧ ∀ m ∈ ex, msG nn m ∧ ¬ m.2.2.2.1 = now
theorem qE.rf {nn : Nat} {now : Int32} {s : mq_S} : qE nn now s s := ⟨[], (List.append_nil _).symm, fun m hm => nomatch hm⟩
theorem qE.tr {nn : Nat} {now : Int32} {s s2 s3 : mq_S} (h : qE nn now s s2) (h2 : qE nn now s2 s3) : qE nn now s s3 := by
  obtain ⟨e, a, b⟩ := h
  obtain ⟨e2, a2, b2⟩ := h2
  refine ⟨e ++ e2, by rw [a2, a, List.append_assoc], fun m hm => ?_⟩
  rcases List.mem_append.mp hm with q | q
  · exact b m q
  · exact b2 m q
theorem now_ne {now : Int32} {d : Nat} (h : ¬ d = 0) (h9 : d ≤ 9) : ¬ now + nI d = now := by
  intro e
  have q : nI d = 0 := by
    have r : now + nI d = now + 0 := by rw [e]; exact (Int32.add_zero now).symm
    exact (Int32.add_right_inj now).mp r
  have t := nI_toInt (show d < 2 ^ 31 by omega)
  rw [q, show (0 : Int32).toInt = 0 by decide] at t
  omega
theorem sd1_E {nn : Nat} {now to_ : Int32} {v kd d : Nat} {t : by_L} {s : mq_S} (hv : v < nn) (hto : (∃ b, b < nn ∧ to_ = nI b) ∨ d = 0) (h1 : 1 ≤ kd) (h6 : kd ≤ 6) (h9 : d ≤ 9) (hl : t.length ≤ 4000) : qE nn now s (sd1 now (nI v) to_ (nI kd) d t s) := by
  unfold sd1
  by_cases c : sdR s.1 d t.length = true
  · have q := of_decide_eq_true c
    refine ⟨[(nI v, to_, nI kd, now + nI d, t)], if_pos c, fun m hm => ?_⟩
    rw [List.mem_singleton] at hm
    rw [hm]
    refine ⟨⟨⟨v, hv, rfl⟩, ?_, ⟨kd, h1, h6, rfl⟩, hl⟩, now_ne q.1 h9⟩
    rcases hto with r | r
    · exact r
    · exact absurd r q.1
  · exact ⟨[], (if_neg c).trans (List.append_nil _).symm, fun m hm => nomatch hm⟩
def dlX (dl : Nat → Nat) : Prop := ∀ k, k < 36 → dl k ≤ 9
theorem tlQ_E {nn : Nat} {dl : Nat → Nat} {now but : Int32} {v kd : Nat} {t : by_L} {s : mq_S} (hnn : nn ≤ 6) (hv : v < nn) (hd : dlX dl) (h1 : 1 ≤ kd) (h6 : kd ≤ 6) (hl : t.length ≤ 4000) : ∀ n, n ≤ nn → qE nn now s (tlQ dl now v but (nI kd) t n s) := by
  intro n
  induction n with
  | zero => intro _; exact qE.rf
  | succ n ih =>
    intro hn
    have q := ih (by omega)
    unfold tlQ
    split
    · exact q
    · exact q.tr (sd1_E hv (Or.inl ⟨n, by omega, rfl⟩) h1 h6 (hd _ (by omega)) hl)
/-- whom an answer goes to -/
def toX (nn : Nat) (dl : Nat → Nat) (v : Nat) (fr : Int32) (d : Nat) : Prop := (∃ b, b < nn ∧ fr = nI b ∧ d = dl (6 * v + b)) ∨ (fr < 0 ∧ d = 0)
theorem toX.t {nn : Nat} {dl : Nat → Nat} {v : Nat} {fr : Int32} {d : Nat} (h : toX nn dl v fr d) : (∃ b, b < nn ∧ fr = nI b) ∨ d = 0 := by
  rcases h with ⟨b, h1, h2, -⟩ | ⟨-, h2⟩
  · exact Or.inl ⟨b, h1, h2⟩
  · exact Or.inr h2
theorem toX.n {nn : Nat} {dl : Nat → Nat} {v : Nat} {fr : Int32} {d : Nat} (h : toX nn dl v fr d) (hnn : nn ≤ 6) (hv : v < nn) (hd : dlX dl) : d ≤ 9 := by
  rcases h with ⟨b, h1, -, h3⟩ | ⟨-, h2⟩
  · rw [h3]; exact hd _ (by omega)
  · omega
theorem gtQ_E {nn : Nat} {now fr : Int32} {v d : Nat} {bl : List bk_B} {l : by_L} {s : mq_S} (hv : v < nn) (hto : (∃ b, b < nn ∧ fr = nI b) ∨ d = 0) (h9 : d ≤ 9) (hb : blX bl) : ∀ n, qE nn now s (gtQ now v fr d bl l n s) := by
  intro n
  induction n with
  | zero => exact qE.rf
  | succ n ih =>
    unfold gtQ
    split
    · rename_i c
      have hl := (hb _ c).len
      exact ih.tr (sd1_E hv hto (by decide) (by decide) h9 (by omega))
    · exact ih
theorem hhQ_le {bl : List bk_B} {l : by_L} : ∀ k i s, hhI bl l i s → (hhQ bl l k i s).length ≤ 32 * (i + k) := by
  intro k
  induction k with
  | zero =>
    intro i s h
    obtain ⟨-, -, c, c1, -, c3, -⟩ := h
    show s.2.2.length ≤ _
    omega
  | succ k ih =>
    intro i s h
    cases e : hhT bl (hhd l i) s with
    | none =>
      rw [hhQ_n e]
      obtain ⟨-, -, c, c1, -, c3, -⟩ := h
      omega
    | some s2 =>
      rw [hhQ_s e]
      have q := ih (i + 1) s2 (hhT_I h e)
      omega
theorem hrQ_E {nn : Nat} {now fr : Int32} {v d kd : Nat} {S : ks_S} {l : by_L} (hv : v < nn) (hto : (∃ b, b < nn ∧ fr = nI b) ∨ d = 0) (h9 : d ≤ 9) (hI : ksI S) (hl4 : l.length ≤ 4000) : qE nn now (ksQ S) (hrQ now v fr d S kd l) := by
  unfold hrQ
  split
  · rename_i c
    have cw := of_decide_eq_true c
    split
    · unfold tdQ
      split
      · have hl := akT_len (ksB S) (enB (ksB S)) (ksT S)
        exact sd1_E hv hto (by decide) (by decide) h9 (by omega)
      · exact qE.rf
    · split
      · unfold adQ
        split
        · refine sd1_E hv hto (by decide) (by decide) h9 ?_
          rw [hdB_len]
          have q : adM (enB (ksB S)) (ksT S) (adK (ksB S) (enB (ksB S)) (ksT S) l (l.length / 32)) ≤ 16 := by unfold adM; omega
          omega
        · exact qE.rf
      · split
        · rename_i c3
          unfold hsQ
          split
          · exact qE.rf
          · refine sd1_E hv hto (by decide) (by decide) h9 ?_
            have q := hhQ_le (l := l) (l.length / 80) 0 _ (hhI0 hI.1.2.2.2.2.1)
            have e : (hhZ (ksB S) l (l.length / 80)).length ≤ 32 * (0 + l.length / 80) := q
            omega
        · exact gtQ_E hv hto h9 hI.1.2.2.2.2.2.1 _
  · exact qE.rf
theorem kpL_E {nn : Nat} {now : Int32} {rec : ks_S → by_L → ks_S × Bool} {h : by_L} (hrec : ∀ S l, qE nn now (ksQ S) (ksQ (rec S l).1)) : ∀ m S, qE nn now (ksQ S) (ksQ (kpL rec h m S).1) := by
  intro m
  induction m with
  | zero => intro S; exact qE.rf
  | succ m ih =>
    intro S
    unfold kpL
    split
    · split
      · have r := hrec (ksE S (loF (ksL S) h)) (rowL (ksL S) (loF (ksL S) h))
        split
        · exact qE.tr r (ih _)
        · exact r
      · exact ih (ksE S (loF (ksL S) h))
    · exact qE.rf
theorem kp_E {nn : Nat} {dl : Nat → Nat} {now fr : Int32} {v : Nat} (hnn : nn ≤ 6) (hv : v < nn) (hd : dlX dl) : ∀ f S l, qE nn now (ksQ S) (ksQ (kp nn dl now v fr f S l).1) := by
  intro f
  induction f with
  | zero => intro S l; exact qE.rf
  | succ f ih =>
    intro S l
    unfold kp
    split
    · have q : qE nn now (ksQ S) (ksQ (kp1 nn dl now v fr S l)) := tlQ_E hnn hv hd (by decide) (by decide) (by rw [haS_len]; decide) nn (Nat.le_refl _)
      exact q.tr (kpL_E ih 8 _)
    · exact qE.rf
theorem rvS_E {nn : Nat} {dl : Nat → Nat} {now fr : Int32} {v d kd : Nat} {S : ks_S} {l : by_L} (hnn : nn ≤ 6) (hv : v < nn) (hd : dlX dl) (hto : toX nn dl v fr d) (hI : ksI S) (hl4 : l.length ≤ 4000) : qE nn now (ksQ S) (ksQ (rvS nn dl now v fr d S kd l).1) := by
  have h9 := toX.n hto hnn hv hd
  unfold rvS
  split
  · unfold tkB
    split
    · exact kp_E hnn hv hd 9 S l
    · split
      · show qE nn now (ksQ S) (ksQ (if isLo (ksL S) (haS l) = true then S else _))
        split
        · exact qE.rf
        · have hl := akT_len (ksB S) (enB (ksB S)) (ksT S)
          exact sd1_E hv hto.t (by decide) (by decide) h9 (by omega)
      · exact qE.rf
  · split
    · show qE nn now (ksQ S) (if ksV S l = 0 then _ else _)
      split
      · exact tlQ_E hnn hv hd (by decide) (by decide) hl4 nn (Nat.le_refl _)
      · exact qE.rf
    · exact hrQ_E hv hto.t h9 hI hl4
theorem tkB_1 {nn : Nat} {dl : Nat → Nat} {now fr : Int32} {v d : Nat} {S : ks_S} {l : by_L} (hJ : ksJ S l ≤ 100) : (tkB nn dl now v fr d S l).2.2 = 1 ↔ ksJ S l = 1 := by
  unfold tkB
  split
  · rename_i c
    refine ⟨fun q => ?_, fun q => absurd q (by omega)⟩
    exfalso
    revert q
    show ¬ (if (kp nn dl now v fr 9 S l).2 = true then nI 0 else (-2 : Int32)) = 1
    split
    · decide
    · decide
  · split
    · rename_i c c6
      exact ⟨fun q => absurd (show nI 6 = (1 : Int32) from q) (by decide), fun q => absurd q (by omega)⟩
    · show nI (ksJ S l) = 1 ↔ _
      refine ⟨fun q => ?_, fun q => by rw [q]; rfl⟩
      have t := nI_toInt (show ksJ S l < 2 ^ 31 by omega)
      rw [q, show (1 : Int32).toInt = 1 by decide] at t
      omega
