/-! tick: the reference, the messages of one tick -/
theorem tkS_u {f c : Nat} {H : ho_H} (hc : nwF (hoQ H).1 (hoW H) < (hoQ H).1.length) (hu : (ndL (hoN H) (rcvI (msL (hoQ H).1 (nwF (hoQ H).1 (hoW H))))).2.1 = true) : tkS (f + 1) H c = tkS f (arS (hoq H ((hoQ H).1.eraseIdx (nwF (hoQ H).1 (hoW H)), (hoQ H).2)) (msL (hoQ H).1 (nwF (hoQ H).1 (hoW H)))) (c + 1) := by rw [tkS, if_pos hc, if_pos hu]
theorem tkS_d {f c : Nat} {H : ho_H} (hc : nwF (hoQ H).1 (hoW H) < (hoQ H).1.length) (hu : (ndL (hoN H) (rcvI (msL (hoQ H).1 (nwF (hoQ H).1 (hoW H))))).2.1 = false) : tkS (f + 1) H c = tkS f (hoq H ((hoQ H).1.eraseIdx (nwF (hoQ H).1 (hoW H)), (hoQ H).2 + 1)) c := by rw [tkS, if_pos hc, if_neg (by rw [hu]; decide)]
theorem tkS_n {f c : Nat} {H : ho_H} (hc : ¬ nwF (hoQ H).1 (hoW H) < (hoQ H).1.length) : tkS f H c = (H, c) := by
  cases f with
  | zero => rfl
  | succ f => rw [tkS, if_neg hc]
theorem arS_p {H : ho_H} {s : mq_S} {m : ms_M} (h : hoX (hoq H s)) (hnn : (hoN H).length ≤ 6) (hm : msG (hoN H).length m) : ∃ ex, (hoQ (arS (hoq H s) m)).1 = s.1 ++ ex := by
  obtain ⟨s1, s2, s3, s4, s5, s6, s7, s8⟩ := hm.bs hnn
  obtain ⟨ex, e1, -⟩ := rvS_E (now := hoW H) (kd := kdI m) (S := ksq (ndL (hoN H) (rcvI m)).1 s) hnn s3 h.2.1 (Or.inl ⟨sdI m, s1, s2, rfl⟩) (ksq_I (h.1 _ s3)) s8
  exact ⟨ex, e1⟩
theorem msL_apl {q ex : List ms_M} {j : Nat} (h : j < q.length) : msL (q ++ ex) j = msL q j := by
  unfold msL
  rw [List.getD_eq_getElem?_getD, List.getD_eq_getElem?_getD, List.getElem?_append_left h]
set_option maxHeartbeats 4000000 in
set_option maxRecDepth 100000 in
theorem c_rk_i {κ : hz_C} {z B nn : Nat} {M : hz_M} (hnn : nn ≤ 6) {tt nt : Nat} {P : hz_P} {R : ho_H × Nat} (K : ∀ M2, frM B M M2 → hmR M2 z B R.1 → hz_W κ xX12_tick 25 0 0 P 0 0 81 [(2, .int (nI (R.2))), (3, .int (nI tt)), (0, .ref B), (1, .int (nI nt))] [] z M2) : ∀ k N j H c M2, k = 1000 * N + ((hoQ H).1.length - j) → j ≤ (hoQ H).1.length → nwC (hoW H) (hoQ H).1 ≤ N → (∀ x, x < j → ¬ (msL (hoQ H).1 x).2.2.2.1 = hoW H) → frM B M M2 → hmR M2 z B H → hoX H → (hoN H).length = nn → R = tkS N H c → hz_W κ xX12_tick 25 0 0 P 0 0 40 [(4, .int (nI j)), (2, .int (nI c)), (3, .int (nI tt)), (0, .ref B), (1, .int (nI nt))] [] z M2 := by
  intro k
  induction k using Nat.strongRecOn with
  | ind k ih =>
  intro N j H c M2 hk hj hN hno hf hR hX hl hE
  obtain ⟨hk0, hE0, ⟨m1, m2, m3⟩, hNd, a5, a6, a7, a8⟩ := id hR
  obtain ⟨⟨fs, hO, hF⟩, -, -, h8, hz⟩ := id hk0
  obtain ⟨⟨x1, x2⟩, x3, x4, x5, x6, x7, x8⟩ := id m3
  have g86 : fs[86]? = some (.int (nI (hoQ H).1.length)) := (fdB_of hO 86).symm.trans x5
  have g89 : fs[89]? = some (.int (hoW H)) := (fdB_of hO 89).symm.trans x8
  refine hz_iload (pc := 40) 0 (hz_dec kX12_tick 26 rfl) rfl ?_
  refine hz_aloadn (pc := 42) 3 (hz_dec kX12_tick 27 rfl) rfl ?_
  refine hz_get (pc := 43) (v := .int (nI ((hoQ H).1.length))) (hz_dec kX12_tick 28 rfl) fo_X12_610 hO h8 (by omega) g86 ?_
  refine hz_n_ge (pc := 46) (tgt := 81) (hz_dec kX12_tick 29 rfl) (by decide) (by omega) (by omega) (fun h1 => ?_) (fun h1 => ?_)
  · skip
    have hc : ¬ nwF (hoQ H).1 (hoW H) < (hoQ H).1.length := fun q => hno _ (by omega) (nwF_t q)
    have e2 : R = (H, c) := hE.trans (tkS_n hc)
    subst e2
    refine hz_pick (pc := 81) [1, 2, 3, 4] rfl ?_
    exact K M2 hf hR
  · skip
    refine hz_aloadn (pc := 49) 3 (hz_dec kX12_tick 30 rfl) rfl ?_
    refine hz_get (pc := 50) (v := .ref (B + 73)) (hz_dec kX12_tick 31 rfl) fo_X12_239 hO h8 (by omega) (hF.2 82 (by decide) (by decide)) ?_
    refine hz_iload (pc := 53) 0 (hz_dec kX12_tick 32 rfl) rfl ?_
    refine hz_iald (pc := 55) (j := j) (hz_dec kX12_tick 33 rfl) hE0.a73 (by omega) (by omega) rfl (by omega) (by decide) ?_
    refine hz_eqi (pc := 56) (x1 j h1).2.2.2 ?_
    refine hz_aloadn (pc := 56) 3 (hz_dec kX12_tick 34 rfl) rfl ?_
    refine hz_get (pc := 57) (v := .int (hoW H)) (hz_dec kX12_tick 35 rfl) fo_X12_619 hO h8 (by omega) g89 ?_
    refine hz_icmp_ne (pc := 60) (tgt := 75) (hz_dec kX12_tick 36 rfl) (by decide) (fun h2 => ?_) (fun h2 => ?_)
    · skip
      refine hz_incN (pc := 75) (i := 4) (lo2 := [(4, .int (nI (j + 1))), (2, .int (nI c)), (3, .int (nI tt)), (0, .ref B), (1, .int (nI nt))]) 0 (hz_dec kX12_tick 44 rfl) rfl (by decide) rfl ?_
      refine hz_goto (pc := 78) (tgt := 40) (hz_dec kX12_tick 45 rfl) (by decide) ?_
      refine hz_pick (pc := 40) [0, 1, 2, 3, 4] rfl ?_
      exact ih (1000 * N + ((hoQ H).1.length - (j + 1))) (by omega) N (j + 1) H c M2 rfl (by omega) hN (fun x hx => by rcases (show x = j ∨ x < j by omega) with e | q; rw [e]; exact h2; exact hno x q) hf hR hX hl hE
    · skip
      have ht : (msL (hoQ H).1 j).2.2.2.1 = hoW H := by first | exact h2 | exact Classical.byContradiction h2
      have hnf : nwF (hoQ H).1 (hoW H) = j := fsI_at (p := fun k => decide ((msL (hoQ H).1 k).2.2.2.1 = hoW H)) (decide_eq_true ht) (fun x hx => decide_eq_false (hno x hx)) _ h1
      have hcn := nwC_er h1 ht
      have hm := hX.2.2 _ (msL_mem h1)
      have hG : ∀ m ∈ (hoQ H).1.eraseIdx j, msG (hoN H).length m := fun m h9 => hX.2.2 m (List.mem_of_mem_eraseIdx h9)
      have hel : ((hoQ H).1.eraseIdx j).length = (hoQ H).1.length - 1 := ms_erl h1
      have hbe : ∀ x, x < j → msL ((hoQ H).1.eraseIdx j) x = msL (hoQ H).1 x := fun x hx => by rw [msL_er, if_pos hx]
      have hfl : nwF (hoQ H).1 (hoW H) < (hoQ H).1.length := by omega
      obtain ⟨N1, hN1⟩ : ∃ N1, N = N1 + 1 := ⟨N - 1, by omega⟩
      subst hN1
      refine hz_iloadn (pc := 63) 1 (hz_dec kX12_tick 37 rfl) rfl ?_
      refine hz_aloadn (pc := 64) 3 (hz_dec kX12_tick 38 rfl) rfl ?_
      refine hz_iload (pc := 65) 0 (hz_dec kX12_tick 39 rfl) rfl ?_
      refine hz_callV (pc := 67) (a := B) (As := [.int (nI j)]) (st := [.int (nI c)]) (hz_dec kX12_tick 40 rfl) co_X12_708 im_X12_arrive se_X12_arrive rfl hO h8 (by omega) (c_arm (by omega) hR hX h1) rfl (by decide) ⟨Nat.le_refl _, Nat.le_refl _⟩ (Nat.le_of_ble_eq_true rfl) rfl (fun r9 z9 M3 hp9 => ?_)
      obtain ⟨rfl, rfl, hf3, hup, hdn⟩ := hp9
      cases hu : (ndL (hoN H) (rcvI (msL (hoQ H).1 j))).2.1 with
      | true =>
        refine hz_eqi (pc := 70) (show _ = nI 1 from rfl) ?_
        have hR3 := hup hu
        have hX1 : hoX (hoq H ((hoQ H).1.eraseIdx j, (hoQ H).2)) := hoq_X hX hG
        have hp := arS_p hX1 (show (hoN H).length ≤ 6 by omega) hm
        obtain ⟨H2, eH, hX2, hl2, hW, hC⟩ := arS_q hX1 (show (hoN H).length ≤ 6 by omega) hm
        have eR : R = tkS N1 (arS (hoq H ((hoQ H).1.eraseIdx j, (hoQ H).2)) (msL (hoQ H).1 j)) (c + 1) := by have q := hE.trans (tkS_u hfl (by rw [hnf]; exact hu)); rw [hnf] at q; exact q
        rw [eH] at eR hR3 hp
        obtain ⟨ex, hex⟩ := hp
        replace hex : (hoQ H2).1 = (hoQ H).1.eraseIdx j ++ ex := hex
        replace hC : nwC (hoW H) (hoQ H2).1 = nwC (hoW H) ((hoQ H).1.eraseIdx j) := hC
        have hlen : (hoQ H2).1.length = (hoQ H).1.length - 1 + ex.length := by rw [hex, List.length_append, hel]
        have h200 : (hoQ H2).1.length ≤ 200 := hR3.2.2.1.2.2.2.1
        refine hz_addN (pc := 70) (hz_dec kX12_tick 41 rfl) ?_
        refine hz_istoren (pc := 71) (i := 2) (lo2 := [(2, .int (nI (c + 1))), (4, .int (nI j)), (3, .int (nI tt)), (0, .ref B), (1, .int (nI nt))]) (hz_dec kX12_tick 42 rfl) rfl (by decide) rfl ?_
        refine hz_goto (pc := 72) (tgt := 40) (hz_dec kX12_tick 43 rfl) (by decide) ?_
        refine hz_pick (pc := 40) [1, 0, 2, 3, 4] rfl ?_
        exact ih (1000 * N1 + ((hoQ H2).1.length - j)) (by omega) N1 j H2 (c + 1) M3 rfl (by omega) (by rw [hW]; omega) (fun x hx => by rw [hex, msL_apl (by omega), hbe x hx, hW]; exact hno x hx) (hf.tr hf3) hR3 hX2 (hl2.trans hl) eR
      | false =>
        refine hz_eqi (pc := 70) (show _ = nI 0 from rfl) ?_
        have hR3 := hdn hu
        have eR : R = tkS N1 (hoq H ((hoQ H).1.eraseIdx j, (hoQ H).2 + 1)) c := by have q := hE.trans (tkS_d hfl (by rw [hnf]; exact hu)); rw [hnf] at q; exact q
        refine hz_addN (pc := 70) (hz_dec kX12_tick 41 rfl) ?_
        refine hz_eqi (pc := 71) (show _ = nI c from rfl) ?_
        refine hz_istoren (pc := 71) (i := 2) (lo2 := [(2, .int (nI c)), (4, .int (nI j)), (3, .int (nI tt)), (0, .ref B), (1, .int (nI nt))]) (hz_dec kX12_tick 42 rfl) rfl (by decide) rfl ?_
        refine hz_goto (pc := 72) (tgt := 40) (hz_dec kX12_tick 43 rfl) (by decide) ?_
        refine hz_pick (pc := 40) [1, 0, 2, 3, 4] rfl ?_
        exact ih (1000 * N1 + (((hoQ H).1.eraseIdx j).length - j)) (by omega) N1 j (hoq H ((hoQ H).1.eraseIdx j, (hoQ H).2 + 1)) c M3 rfl (show j ≤ ((hoQ H).1.eraseIdx j).length by omega) (show nwC (hoW H) ((hoQ H).1.eraseIdx j) ≤ N1 by omega) (fun x hx => by show ¬ (msL ((hoQ H).1.eraseIdx j) x).2.2.2.1 = hoW H; rw [hbe x hx]; exact hno x hx) (hf.tr hf3) hR3 (hoq_X hX hG) hl eR
