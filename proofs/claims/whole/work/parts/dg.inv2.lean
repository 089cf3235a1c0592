/-! what always holds of a house, and that the calls keep it -/
def hoG (F : by_L) (H : ho_H) : Prop := hoX H ∧ (hoT H).length ≤ 4000 ∧ hoF F H ∧ (hoN H).length ≤ 6 ∧ (hoI H).length ≤ 4 ∧ (hoU H).length ≤ 4
theorem bkL_a0 {bl e : List bk_B} (h : 0 < bl.length) : bkL (bl ++ e) 0 = bkL bl 0 := by
  unfold bkL
  rw [List.getD_eq_getElem?_getD, List.getD_eq_getElem?_getD, List.getElem?_append_left h]
theorem hoG.t {F : by_L} {H : ho_H} (h : hoG F H) {T : by_L} {e : Int32} (hT : T.length ≤ 4000) : hoG F (hot H T e) := ⟨h.1, hT, h.2.2⟩
theorem hoG.d {F : by_L} {H : ho_H} (h : hoG F H) {I : List di_I} {U : List do_O} (hI : I.length ≤ 4) (hU : U.length ≤ 4) : hoG F (hod H I U) := ⟨h.1, h.2.1, h.2.2.1, h.2.2.2.1, hI, hU⟩
theorem hoG.l {F : by_L} {H : ho_H} (h : hoG F H) {dl : Nat → Nat} (hd : dlX dl) : hoG F (hol H dl) := ⟨⟨h.1.1, hd, h.1.2.2⟩, h.2⟩
theorem hoG.q {F : by_L} {H : ho_H} (h : hoG F H) {s : mq_S} (hs : ∀ m ∈ s.1, msG (hoN H).length m) : hoG F (hoq H s) := ⟨⟨h.1.1, h.1.2.1, hs⟩, h.2⟩
theorem hoG.w {F : by_L} {H : ho_H} (h : hoG F H) : hoG F (how H) := ⟨h.1, h.2⟩
theorem hoG.n {F : by_L} {H : ho_H} (h : hoG F H) {v : Nat} (hv : v < (hoN H).length) {N : nd_N} {q : mq_S} (hN : ksI N.1) (hb : bkL (ksB N.1) 0 = fiB F) (hq : ∀ m ∈ q.1, msG (hoN H).length m) : hoG F (hoS H v N q) ∧ (hoN (hoS H v N q)).length = (hoN H).length := by
  have hl : (hoN (hoS H v N q)).length = (hoN H).length := List.length_set
  have hs : ∀ w, ndL (hoN (hoS H v N q)) w = if w = v then N else ndL (hoN H) w := fun w => ndL_set hv w
  refine ⟨⟨⟨fun w hw => ?_, h.1.2.1, fun m hm => ?_⟩, h.2.1, fun w hw => ?_, ?_, h.2.2.2.2⟩, hl⟩
  · rw [hs w]
    split
    · exact hN
    · exact h.1.1 w (by rw [← hl]; exact hw)
  · rw [hl]; exact hq m hm
  · rw [hs w]
    split
    · exact hb
    · exact h.2.2.1 w (by rw [← hl]; exact hw)
  · rw [hl]; exact h.2.2.2.1
theorem tkB_f {nn : Nat} {dl : Nat → Nat} {now : Int32} {v : Nat} {fr : Int32} {d : Nat} {S : ks_S} {l : by_L} (h : ksI S) : bkL (ksB (tkB nn dl now v fr d S l).1) 0 = bkL (ksB S) 0 := by
  unfold tkB
  by_cases c : ksJ S l = 0
  · rw [if_pos c]
    obtain ⟨⟨e, he⟩, -, -⟩ := kp_X (nn := nn) (dl := dl) (now := now) (v := v) (fr := fr) 9 S l h c
    show bkL (ksB (kp nn dl now v fr 9 S l).1) 0 = _
    rw [he]
    exact bkL_a0 h.1.1
  · rw [if_neg c]
    by_cases c2 : ksJ S l = 6
    · rw [if_pos c2]
      show bkL (ksB (if isLo (ksL S) (haS l) = true then S else ksO S l (sd1 now (nI v) fr (nI 2) d (akT (ksB S) (enB (ksB S)) (ksT S)) (ksQ S)))) 0 = _
      split
      · rfl
      · rfl
    · rw [if_neg c2]
theorem rvS_f {nn : Nat} {dl : Nat → Nat} {now fr : Int32} {v d kd : Nat} {S : ks_S} {l : by_L} (h : ksI S) : bkL (ksB (rvS nn dl now v fr d S kd l).1) 0 = bkL (ksB S) 0 := by
  unfold rvS
  split
  · exact tkB_f h
  · split
    · rfl
    · rfl
theorem upR_f : ∀ m S, 0 < (ksB S).length → bkL (ksB (upR m S)) 0 = bkL (ksB S) 0 := by
  intro m
  induction m with
  | zero => intro S _; rfl
  | succ m ih =>
    intro S h
    show bkL (ksB (if rdO S = true then upR m (rdS S) else S)) 0 = _
    split
    · rw [ih (rdS S) (by show 0 < (ksB S ++ _).length; rw [List.length_append]; omega)]
      exact bkL_a0 h
    · rfl
theorem upN_f {N : nd_N} : bkL (ksB (upN N).1) 0 = bkL (ksB N.1) 0 := by
  show bkL (ksB (upR 112 (up0 N.1))) 0 = _
  rw [upR_f 112 (up0 N.1) (Nat.zero_lt_one)]
  rfl
theorem hoG.ar {F : by_L} {H : ho_H} (h : hoG F H) {m : ms_M} (hm : msG (hoN H).length m) : hoG F (arS H m) ∧ (hoN (arS H m)).length = (hoN H).length := by
  obtain ⟨s1, s2, s3, s4, s5, s6, s7, s8⟩ := hm.bs h.2.2.2.1
  have hI := h.1.1 _ s3
  refine h.n s3 (rvS_I (ksq_I hI)) ((rvS_f (ksq_I hI)).trans (h.2.2.1 _ s3)) ?_
  have q : qE (hoN H).length (hoW H) (hoQ H) (ksQ (arV H m).1) := rvS_E h.2.2.2.1 s3 h.1.2.1 (Or.inl ⟨sdI m, s1, s2, rfl⟩) (ksq_I hI) s8
  exact q.G h.1.2.2
theorem tk1_G {F : by_L} : ∀ f (H : ho_H) c, hoG F H → hoG F (tk1 f H c).1 ∧ (hoN (tk1 f H c).1).length = (hoN H).length := by
  intro f
  induction f with
  | zero => intro H c h; exact ⟨h, rfl⟩
  | succ f ih =>
    intro H c h
    have q := nxR_I (now := hoW H) 200 (hoQ H) h.1.2.2
    cases e : (nxR (hoN H) (hoW H) 200 (hoQ H)).2 with
    | none => rw [tk1_n e]; exact ⟨h.q q.1, rfl⟩
    | some m =>
      rw [tk1_s e]
      have r := q.2 m e
      have a := (h.q q.1).ar r.1
      have t := ih _ (c + 1) a.1
      exact ⟨t.1, t.2.trans a.2⟩
theorem hoG.e {F : by_L} {H : ho_H} (h : hoG F H) : hoG F (tkE H) ∧ (hoN (tkE H)).length = (hoN H).length := by
  unfold tkE
  split
  · exact ⟨h.q ((ttQ_E h.2.2.2.1 h.1.2.1 _ (Nat.le_refl _)).G h.1.2.2), rfl⟩
  · exact ⟨h, rfl⟩
theorem tkN_G {F : by_L} : ∀ n (H : ho_H) c, hoG F H → hoG F (tkN n H c).1 ∧ (hoN (tkN n H c).1).length = (hoN H).length := by
  intro n
  induction n with
  | zero => intro H c h; exact ⟨h, rfl⟩
  | succ n ih =>
    intro H c h
    have a := tk1_G 200 (how H) c h.w
    have b := a.1.e
    have t := ih (tkE (tk1 200 (how H) c).1) (tk1 200 (how H) c).2 b.1
    exact ⟨t.1, t.2.trans (b.2.trans a.2)⟩
theorem hoG.g {F : by_L} {H : ho_H} (h : hoG F H) {v : Nat} (hv : v < (hoN H).length) {N : nd_N} (hN : ndL (hoN H) v = N) {kd : Nat} (hk : kd = 5 ∨ kd = 6) : hoG F (gvH H v N kd) ∧ (hoN (gvH H v N kd)).length = (hoN H).length := by
  have hI : ksI N.1 := by rw [← hN]; exact h.1.1 v hv
  have hb : bkL (ksB N.1) 0 = fiB F := by rw [← hN]; exact h.2.2.1 v hv
  have e : (gvR H v N kd).1 = (rvS (hoN H).length (hoD H) (hoW H) v (-1) 0 (ksq N.1 (hoQ H)) kd (hoT H)).1 := by
    rcases hk with c | c
    · subst c; rw [rvS_5]; rfl
    · subst c; rw [rvS_6]; rfl
  have h0 : hoG F (hot H [] (hoE H)) := h.t (Nat.zero_le _)
  refine h0.n hv ?_ ?_ ?_
  · show ksI (gvR H v N kd).1
    rw [e]; exact rvS_I (ksq_I hI)
  · show bkL (ksB (gvR H v N kd).1) 0 = _
    rw [e]; exact (rvS_f (ksq_I hI)).trans hb
  · show ∀ m ∈ (ksQ (gvR H v N kd).1).1, msG (hoN H).length m
    rw [e]
    have q : qE (hoN H).length (hoW H) (hoQ H) (ksQ (rvS (hoN H).length (hoD H) (hoW H) v (-1) 0 (ksq N.1 (hoQ H)) kd (hoT H)).1) := rvS_E h.2.2.2.1 hv h.1.2.1 (Or.inr ⟨by decide, rfl⟩) (ksq_I hI) h.2.1
    exact q.G h.1.2.2
theorem al_G {nn : Nat} {q : List ms_M} (h : ∀ m ∈ q, msG nn m) {k i : Nat} {x : Int32} (hk : k < q.length) : ∀ m ∈ alQ q k i x, msG nn m := by
  intro m hm
  rcases List.mem_or_eq_of_mem_set hm with c | c
  · exact h m c
  · have g := h _ (msL_mem hk)
    rw [c]
    exact ⟨g.1, g.2.1, g.2.2.1, by show ((msL q k).2.2.2.2.set i x).length ≤ 4000; rw [List.length_set]; exact g.2.2.2⟩
theorem dlS_X {dl : Nat → Nat} {a b d : Nat} (h : dlX dl) (hd : d ≤ 9) : dlX (dlS dl a b d) := by
  intro k hk
  unfold dlS
  split
  · exact hd
  · split
    · exact hd
    · exact h k hk
theorem fu_I {S : ks_S} (h : ksI S) {n : Int32} : ksI (ksf S (fuI n)) := by
  refine ⟨h.1, h.2.1, fun q hq => ?_, h.2.2.2⟩
  have hq2 : fuI n = some q := hq
  unfold fuI at hq2
  by_cases c : n < 0
  · rw [if_pos c] at hq2; cases hq2
  · rw [if_neg c] at hq2
    cases hq2
    exact un_nn c
/-- an int is out of a range, or a number of it -/
theorem i_sp (x : Int32) {n : Nat} (hn : n < 2 ^ 31) : (x < 0 ∨ ¬ x < nI n) ∨ ∃ k, k < n ∧ x = nI k := by
  by_cases c : x < 0
  · exact Or.inl (Or.inl c)
  · by_cases d : x < nI n
    · exact Or.inr (i_nat c d hn)
    · exact Or.inl (Or.inr d)
theorem i_lt_s {x : Int32} {n : Nat} (hn : n < 2 ^ 30) : x < nI (n + 1) ↔ x ≤ nI n := by
  rw [Int32.lt_iff_toInt_lt, Int32.le_iff_toInt_le, nI_toInt (by omega), nI_toInt (by omega)]
  omega
theorem i_sl (x : Int32) {n : Nat} (hn : n < 2 ^ 30) : (x < 0 ∨ ¬ x ≤ nI n) ∨ ∃ k, k ≤ n ∧ x = nI k := by
  rcases i_sp x (n := n + 1) (by omega) with c | ⟨k, hk, e⟩
  · refine Or.inl ?_
    rw [i_lt_s hn] at c
    exact c
  · exact Or.inr ⟨k, by omega, e⟩
theorem i_s1 (x : Int32) {n : Nat} (hn : n < 2 ^ 30) : (x < nI 1 ∨ ¬ x ≤ nI n) ∨ ∃ k, 1 ≤ k ∧ k ≤ n ∧ x = nI k := by
  by_cases c : x < nI 1
  · exact Or.inl (Or.inl c)
  · rcases i_sl x hn with d | ⟨k, hk, e⟩
    · refine Or.inl (d.elim (fun q => absurd ?_ c) Or.inr)
      rw [Int32.lt_iff_toInt_lt] at q ⊢
      rw [nI_toInt (by omega)]
      have r : (0 : Int32).toInt = 0 := rfl
      omega
    · refine Or.inr ⟨k, ?_, hk, e⟩
      rcases Nat.eq_zero_or_pos k with z | z
      · rw [e, z] at c; exact absurd (by decide) c
      · exact z
theorem i_tI (x : Int32) {n : Nat} (hn : n < 2 ^ 30) : (x.toInt < 0 ∨ (n : Int) < x.toInt) ∨ ∃ k, k ≤ n ∧ x = nI k := by
  rcases i_sl x hn with c | c
  · refine Or.inl ?_
    rw [Int32.lt_iff_toInt_lt, Int32.le_iff_toInt_le, nI_toInt (by omega)] at c
    have r : (0 : Int32).toInt = 0 := rfl
    omega
  · exact Or.inr c
