/-! tick: the messages one after another -/
def tkS : Nat → ho_H → Nat → ho_H × Nat
  | 0, H, c => (H, c)
  | f + 1, H, c => if nwF (hoQ H).1 (hoW H) < (hoQ H).1.length then (if (ndL (hoN H) (rcvI (msL (hoQ H).1 (nwF (hoQ H).1 (hoW H))))).2.1 = true then tkS f (arS (hoq H ((hoQ H).1.eraseIdx (nwF (hoQ H).1 (hoW H)), (hoQ H).2)) (msL (hoQ H).1 (nwF (hoQ H).1 (hoW H)))) (c + 1) else tkS f (hoq H ((hoQ H).1.eraseIdx (nwF (hoQ H).1 (hoW H)), (hoQ H).2 + 1)) c) else (H, c)
def tkM (g f : Nat) (H : ho_H) (c : Nat) : ho_H × Nat := match (nxR (hoN H) (hoW H) g (hoQ H)).2 with
  | none => (hoq H (nxR (hoN H) (hoW H) g (hoQ H)).1, c)
  | some m => tk1 f (arS (hoq H (nxR (hoN H) (hoW H) g (hoQ H)).1) m) (c + 1)
theorem tk1_M (f : Nat) (H : ho_H) (c : Nat) : tk1 (f + 1) H c = tkM 200 f H c := rfl
def nwC (now : Int32) (q : List ms_M) : Nat := (q.filter (fun m => decide (m.2.2.2.1 = now))).length
theorem ms_cut {q : List ms_M} {k : Nat} (h : k < q.length) : q = q.take k ++ msL q k :: q.drop (k + 1) := by
  have e : msL q k = q[k] := by unfold msL; rw [List.getD_eq_getElem?_getD, List.getElem?_eq_getElem h]; rfl
  rw [e, ← List.drop_eq_getElem_cons h, List.take_append_drop]
theorem nwC_er {now : Int32} {q : List ms_M} {k : Nat} (h : k < q.length) (ht : (msL q k).2.2.2.1 = now) : nwC now (q.eraseIdx k) + 1 = nwC now q := by
  have e2 : nwC now q = nwC now (q.take k ++ msL q k :: q.drop (k + 1)) := by rw [← ms_cut h]
  rw [e2, List.eraseIdx_eq_take_drop_succ]
  unfold nwC
  rw [List.filter_append, List.filter_append, List.filter_cons_of_pos (by exact decide_eq_true ht), List.length_append, List.length_append, List.length_cons]
  omega
theorem nwC_no {now : Int32} {q : List ms_M} (h : ∀ k, k < q.length → ¬ (msL q k).2.2.2.1 = now) : nwC now q = 0 := by
  unfold nwC
  rw [List.length_eq_zero_iff, List.filter_eq_nil_iff]
  intro m hm
  obtain ⟨k, hk, e⟩ := List.getElem_of_mem hm
  have e2 : msL q k = m := by unfold msL; rw [List.getD_eq_getElem?_getD, List.getElem?_eq_getElem hk]; exact e
  rw [← e2]
  exact fun c => h k hk (of_decide_eq_true c)
theorem nwC_E {nn : Nat} {now : Int32} {s s2 : mq_S} (h : qE nn now s s2) : nwC now s2.1 = nwC now s.1 := by
  obtain ⟨ex, e1, e2⟩ := h
  unfold nwC
  rw [e1, List.filter_append, List.length_append]
  have e3 : ex.filter (fun m => decide (m.2.2.2.1 = now)) = [] := List.filter_eq_nil_iff.mpr (fun m hm c => (e2 m hm).2 (of_decide_eq_true c))
  rw [e3]
  rfl
theorem nwF_t {now : Int32} {q : List ms_M} (h : nwF q now < q.length) : (msL q (nwF q now)).2.2.2.1 = now := by
  have r := (fsI_lt (p := fun k => decide ((msL q k).2.2.2.1 = now)) q.length h).1
  exact of_decide_eq_true r
theorem nwF_n {now : Int32} {q : List ms_M} (h : ¬ nwF q now < q.length) : nwC now q = 0 := by
  have hle : nwF q now ≤ q.length := fsI_le (fun k => decide ((msL q k).2.2.2.1 = now)) q.length
  have he : fsI (fun k => decide ((msL q k).2.2.2.1 = now)) q.length = q.length := show nwF q now = q.length by omega
  refine nwC_no (fun k hk => ?_)
  exact of_decide_eq_false (fsI_all he k hk)
theorem arS_C {H : ho_H} {m : ms_M} (h : hoX H) (hnn : (hoN H).length ≤ 6) (hm : msG (hoN H).length m) : nwC (hoW H) (hoQ (arS H m)).1 = nwC (hoW H) (hoQ H).1 := by
  obtain ⟨s1, s2, s3, s4, s5, s6, s7, s8⟩ := hm.bs hnn
  exact nwC_E (rvS_E (kd := kdI m) hnn s3 h.2.1 (Or.inl ⟨sdI m, s1, s2, rfl⟩) (ksq_I (h.1 _ s3)) s8)
theorem arS_q {H : ho_H} {s : mq_S} {m : ms_M} (h : hoX (hoq H s)) (hnn : (hoN H).length ≤ 6) (hm : msG (hoN H).length m) : ∃ H2, arS (hoq H s) m = H2 ∧ hoX H2 ∧ (hoN H2).length = (hoN H).length ∧ hoW H2 = hoW H ∧ nwC (hoW H) (hoQ H2).1 = nwC (hoW H) s.1 := by
  have a := arS_X h hnn hm
  have b := arS_C h hnn hm
  exact ⟨_, rfl, a.1, a.2, rfl, b⟩
theorem tkM_S : ∀ N g f (H : ho_H) c, hoX H → (hoN H).length ≤ 6 → nwC (hoW H) (hoQ H).1 ≤ 200 → nwC (hoW H) (hoQ H).1 ≤ N → nwC (hoW H) (hoQ H).1 ≤ g → nwC (hoW H) (hoQ H).1 ≤ f + 1 → tkM g f H c = tkS N H c := by
  intro N
  induction N with
  | zero =>
    intro g f H c hX hnn h200 hN hg hf
    have hno : ¬ nwF (hoQ H).1 (hoW H) < (hoQ H).1.length := fun q => by have r := nwC_er q (nwF_t q); omega
    have e : nxR (hoN H) (hoW H) g (hoQ H) = (hoQ H, none) := by
      cases g with
      | zero => rfl
      | succ g => unfold nxR; exact if_neg hno
    unfold tkM
    rw [e]
    rfl
  | succ N ih =>
    intro g f H c hX hnn h200 hN hg hf
    by_cases hc : nwF (hoQ H).1 (hoW H) < (hoQ H).1.length
    · have hcn := nwC_er hc (nwF_t hc)
      have hm := hX.2.2 _ (msL_mem hc)
      have hG : ∀ m ∈ (hoQ H).1.eraseIdx (nwF (hoQ H).1 (hoW H)), msG (hoN H).length m := fun m h9 => hX.2.2 m (List.mem_of_mem_eraseIdx h9)
      cases g with
      | zero => omega
      | succ g =>
        by_cases hu : (ndL (hoN H) (rcvI (msL (hoQ H).1 (nwF (hoQ H).1 (hoW H))))).2.1 = true
        · have e : nxR (hoN H) (hoW H) (g + 1) (hoQ H) = (((hoQ H).1.eraseIdx (nwF (hoQ H).1 (hoW H)), (hoQ H).2), some (msL (hoQ H).1 (nwF (hoQ H).1 (hoW H)))) := by
            unfold nxR
            rw [if_pos hc, if_pos hu]
          have hX1 : hoX (hoq H ((hoQ H).1.eraseIdx (nwF (hoQ H).1 (hoW H)), (hoQ H).2)) := hoq_X hX hG
          obtain ⟨H2, eH, hX2, hl2, hW, hC⟩ := arS_q hX1 hnn hm
          have eM : tkM (g + 1) f H c = tk1 f (arS (hoq H ((hoQ H).1.eraseIdx (nwF (hoQ H).1 (hoW H)), (hoQ H).2)) (msL (hoQ H).1 (nwF (hoQ H).1 (hoW H)))) (c + 1) := by
            unfold tkM
            rw [e]
          have eS : tkS (N + 1) H c = tkS N (arS (hoq H ((hoQ H).1.eraseIdx (nwF (hoQ H).1 (hoW H)), (hoQ H).2)) (msL (hoQ H).1 (nwF (hoQ H).1 (hoW H)))) (c + 1) := by
            rw [tkS, if_pos hc, if_pos hu]
          rw [eM, eS]
          rw [eH]
          replace hC : nwC (hoW H) (hoQ H2).1 = nwC (hoW H) ((hoQ H).1.eraseIdx (nwF (hoQ H).1 (hoW H))) := hC
          have hn2 : (hoN H2).length ≤ 6 := by rw [hl2]; exact hnn
          cases f with
          | zero =>
            have h0 : nwC (hoW H2) (hoQ H2).1 = 0 := by rw [hW]; omega
            have q := ih 0 0 H2 (c + 1) hX2 hn2 (by omega) (by omega) (by omega) (by omega)
            rw [← q]
            show (H2, c + 1) = (hoq H2 (hoQ H2), c + 1)
            rfl
          | succ f =>
            rw [tk1_M]
            exact ih 200 f H2 (c + 1) hX2 hn2 (by rw [hW]; omega) (by rw [hW]; omega) (by rw [hW]; omega) (by rw [hW]; omega)
        · have e : nxR (hoN H) (hoW H) (g + 1) (hoQ H) = nxR (hoN H) (hoW H) g ((hoQ H).1.eraseIdx (nwF (hoQ H).1 (hoW H)), (hoQ H).2 + 1) := by
            rw [nxR, if_pos hc, if_neg hu]
          have eM : tkM (g + 1) f H c = tkM g f (hoq H ((hoQ H).1.eraseIdx (nwF (hoQ H).1 (hoW H)), (hoQ H).2 + 1)) c := by
            unfold tkM
            rw [e]
            rfl
          have eS : tkS (N + 1) H c = tkS N (hoq H ((hoQ H).1.eraseIdx (nwF (hoQ H).1 (hoW H)), (hoQ H).2 + 1)) c := by
            rw [tkS, if_pos hc, if_neg hu]
          rw [eM, eS]
          have hC : nwC (hoW (hoq H ((hoQ H).1.eraseIdx (nwF (hoQ H).1 (hoW H)), (hoQ H).2 + 1))) (hoQ (hoq H ((hoQ H).1.eraseIdx (nwF (hoQ H).1 (hoW H)), (hoQ H).2 + 1))).1 = nwC (hoW H) ((hoQ H).1.eraseIdx (nwF (hoQ H).1 (hoW H))) := rfl
          exact ih g f _ c (hoq_X hX hG) hnn (by rw [hC]; omega) (by rw [hC]; omega) (by rw [hC]; omega) (by rw [hC]; omega)
    · have e : nxR (hoN H) (hoW H) g (hoQ H) = (hoQ H, none) := by
        cases g with
        | zero => rfl
        | succ g => unfold nxR; exact if_neg hc
      have eS : tkS (N + 1) H c = (H, c) := by rw [tkS, if_neg hc]
      rw [eS]
      unfold tkM
      rw [e]
      rfl
