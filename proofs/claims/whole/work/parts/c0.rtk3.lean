/-! tick: the reference, the loop -/
theorem nwC_le {now : Int32} {q : List ms_M} : nwC now q ≤ q.length := List.length_filter_le _ _
theorem tk1_S {H : ho_H} {c : Nat} (hX : hoX H) (hnn : (hoN H).length ≤ 6) (h : (hoQ H).1.length ≤ 200) : tk1 200 H c = tkS 200 H c := by
  have q := nwC_le (now := hoW H) (q := (hoQ H).1)
  rw [tk1_M 199]
  exact tkM_S 200 200 199 H c hX hnn (by omega) (by omega) (by omega) (by omega)
set_option maxHeartbeats 4000000 in
set_option maxRecDepth 100000 in
theorem c_rk_o {κ : hz_C} {z B nn : Nat} {M : hz_M} (hnn : nn ≤ 6) {nt : Nat} (hnt : nt ≤ 64) {R : ho_H × Nat} : ∀ k t H c M2, k = nt - t → t ≤ nt → frM B M M2 → hmR M2 z B H → hoX H → (hoN H).length = nn → R = tkN k H c → hz_W κ xX12_tick 25 0 0 (fun r z2 M3 => some (.int (nI R.2)) = r ∧ z = z2 ∧ frM B M M3 ∧ hmR M3 z B R.1) 0 0 22 [(3, .int (nI t)), (2, .int (nI c)), (0, .ref B), (1, .int (nI nt))] [] z M2 := by
  intro k
  induction k with
  | zero =>
    intro t H c M2 hk hi hf hR hX hl hE
    refine hz_iloadn (pc := 22) 0 (hz_dec kX12_tick 15 rfl) rfl ?_
    refine hz_iloadn (pc := 23) 3 (hz_dec kX12_tick 16 rfl) rfl ?_
    refine hz_n_ge (pc := 24) (tgt := 139) (hz_dec kX12_tick 17 rfl) (by decide) (by omega) (by omega) (fun h1 => ?_) (fun h1 => ?_)
    · skip
      have e2 : R = (H, c) := hE
      refine hz_iloadn (pc := 139) 1 (hz_dec kX12_tick 74 rfl) rfl ?_
      exact hz_iret (pc := 140) (hz_dec kX12_tick 75 rfl) rfl ⟨by rw [e2], rfl, hf, by rw [e2]; exact hR⟩
    · skip
      exact absurd h1 (by omega)
  | succ k ih =>
    intro t H c M2 hk hi hf hR hX hl hE
    obtain ⟨hk0, hE0, ⟨m1, m2, m3⟩, hNd, a5, a6, a7, a8⟩ := id hR
    obtain ⟨⟨fs, hO, hF⟩, -, -, h8, hz⟩ := id hk0
    obtain ⟨x1, x3, x4, x5, x6, x7, x8⟩ := id m3
    have g89 : fs[89]? = some (.int (hoW H)) := (fdB_of hO 89).symm.trans x8
    refine hz_iloadn (pc := 22) 0 (hz_dec kX12_tick 15 rfl) rfl ?_
    refine hz_iloadn (pc := 23) 3 (hz_dec kX12_tick 16 rfl) rfl ?_
    refine hz_n_ge (pc := 24) (tgt := 139) (hz_dec kX12_tick 17 rfl) (by decide) (by omega) (by omega) (fun h1 => ?_) (fun h1 => ?_)
    · skip
      exact absurd h1 (by omega)
    · skip
      refine hz_aloadn (pc := 27) 2 (hz_dec kX12_tick 18 rfl) rfl ?_
      refine hz_dup (pc := 28) (hz_dec kX12_tick 19 rfl) rfl ?_
      refine hz_get (pc := 29) (v := .int (hoW H)) (hz_dec kX12_tick 20 rfl) fo_X12_619 hO h8 (by omega) g89 ?_
      refine hz_iconst (pc := 32) (v := nI 1) (hz_dec kX12_tick 21 rfl) (by decide) ?_
      refine hz_iadd (pc := 33) (hz_dec kX12_tick 22 rfl) ?_
      refine hz_puti (pc := 34) (hz_dec kX12_tick 23 rfl) fo_X12_619 ft_X12_89 hO h8 (by omega) (by rw [hF.1]; decide) ?_
      have hf1 : mfr B [0, 89] [] M2 (va_up M2 B (.inr (12, (List.set fs 89 (.int ((hoW H) + (nI (1)))))))) := (mfr.rf ⟨fs, hO, hF⟩).upO (k := 89) hO hF rfl rfl
      have hR1 : hmR (va_up M2 B (.inr (12, (List.set fs 89 (.int ((hoW H) + (nI (1)))))))) z B (how H) := hR.m0 hf1 hE0.upO ((fdB_of (va_up_self _ _ _) 89).trans (List.getElem?_set_self (by rw [hF.1]; decide)))
      generalize (va_up M2 B (.inr (12, (List.set fs 89 (.int ((hoW H) + (nI (1)))))))) = M3 at *
      have hf13 : frM B M M3 := hf.tr (hf1.S rfl)
      refine hz_iconst (pc := 37) (v := nI 0) (hz_dec kX12_tick 24 rfl) (by decide) ?_
      refine hz_istore (pc := 38) (i := 4) (lo2 := [(4, .int (nI 0)), (3, .int (nI t)), (2, .int (nI c)), (0, .ref B), (1, .int (nI nt))]) (hz_dec kX12_tick 25 rfl) (by decide) rfl ?_
      refine hz_pick (pc := 40) [0, 2, 1, 3, 4] rfl ?_
      have hX1 : hoX (how H) := hX
      have hT := tk1_X 200 (how H) c hX1 (show (hoN H).length ≤ 6 by omega)
      have hS := tk1_S (c := c) hX1 (show (hoN H).length ≤ 6 by omega) x3
      have hc2 := nwC_le (now := hoW (how H)) (q := (hoQ H).1)
      refine c_rk_i hnn (R := tk1 200 (how H) c) (M := M) (fun M4 hf4 hR4 => ?_) (1000 * 200 + ((hoQ (how H)).1.length - 0)) 200 0 (how H) c M3 rfl (Nat.zero_le _) (show nwC (hoW (how H)) (hoQ H).1 ≤ 200 by omega) (fun x hx => absurd hx (by omega)) hf13 hR1 hX1 hl hS
      have eN : R = tkN k (tkE (tk1 200 (how H) c).1) (tk1 200 (how H) c).2 := hE
      generalize tk1 200 (how H) c = T at *
      have hl4 : (hoN T.1).length = nn := hT.2.trans hl
      have hE4 := tkE_X hT.1 (by omega)
      obtain ⟨hk4, hEE4, ⟨n1, n2, n3⟩, -⟩ := id hR4
      obtain ⟨⟨fs4, hO4, hF4⟩, -, -, -, -⟩ := id hk4
      have g14 : fs4[1]? = some (.int (nI (hoN T.1).length)) := (fdB_of hO4 1).symm.trans n1
      have g894 : fs4[89]? = some (.int (hoW T.1)) := (fdB_of hO4 89).symm.trans n3.2.2.2.2.2.2
      refine hz_iconst (pc := 81) (v := nI 0) (hz_dec kX12_tick 46 rfl) (by decide) ?_
      refine hz_istore (pc := 82) (i := 5) (lo2 := [(5, .int (nI 0)), (2, .int (nI (T.2))), (3, .int (nI t)), (0, .ref B), (1, .int (nI nt))]) (hz_dec kX12_tick 47 rfl) (by decide) rfl ?_
      refine hz_pick (pc := 84) [0, 1, 2, 3, 4] rfl ?_
      by_cases h8w : hoW T.1 - hoW T.1 / (nI 8) * (nI 8) = 0
      · skip
        refine c_rk_t (H := T.1) (M := M) (by omega) hT.1 h8w (fun M5 hf5 hR5 => ?_) (hoN T.1).length 0 M4 rfl (Nat.zero_le _) hf4 hR4
        refine hz_incN (pc := 133) (i := 3) (lo2 := [(3, .int (nI (t + 1))), (2, .int (nI (T.2))), (0, .ref B), (1, .int (nI nt))]) 1 (hz_dec kX12_tick 72 rfl) rfl (by decide) rfl ?_
        refine hz_goto (pc := 136) (tgt := 22) (hz_dec kX12_tick 73 rfl) (by decide) ?_
        refine hz_pick (pc := 22) [0, 1, 2, 3] rfl ?_
        exact ih (t + 1) _ _ M5 (by omega) (by omega) hf5 hR5 hE4.1 (hE4.2.trans hl4) eN
      · skip
        have hR5 : hmR M4 z B (tkE T.1) := by rw [tkE_n h8w]; exact hR4
        refine hz_iload (pc := 84) 0 (hz_dec kX12_tick 48 rfl) rfl ?_
        refine hz_aloadn (pc := 86) 3 (hz_dec kX12_tick 49 rfl) rfl ?_
        refine hz_get (pc := 87) (v := .int (nI ((hoN T.1).length))) (hz_dec kX12_tick 50 rfl) fo_X12_289 hO4 h8 (by omega) g14 ?_
        refine hz_n_ge (pc := 90) (tgt := 133) (hz_dec kX12_tick 51 rfl) (by decide) (by omega) (by omega) (fun h5 => ?_) (fun h5 => ?_)
        · skip
          refine hz_incN (pc := 133) (i := 3) (lo2 := [(3, .int (nI (t + 1))), (5, .int (nI 0)), (2, .int (nI (T.2))), (0, .ref B), (1, .int (nI nt))]) 2 (hz_dec kX12_tick 72 rfl) rfl (by decide) rfl ?_
          refine hz_goto (pc := 136) (tgt := 22) (hz_dec kX12_tick 73 rfl) (by decide) ?_
          refine hz_pick (pc := 22) [0, 2, 3, 4] rfl ?_
          exact ih (t + 1) _ _ M4 (by omega) (by omega) hf4 hR5 hE4.1 (hE4.2.trans hl4) eN
        · skip
          refine hz_aloadn (pc := 93) 3 (hz_dec kX12_tick 52 rfl) rfl ?_
          refine hz_get (pc := 94) (v := .int (hoW T.1)) (hz_dec kX12_tick 53 rfl) fo_X12_619 hO4 h8 (by omega) g894 ?_
          refine hz_bipush (pc := 97) (v := nI 8) (hz_dec kX12_tick 54 rfl) (by decide) ?_
          refine hz_irem (pc := 99) (hz_dec kX12_tick 55 rfl) (by decide) ?_
          refine hz_if_ne (pc := 100) (tgt := 133) (hz_dec kX12_tick 56 rfl) (by decide) (fun h6 => ?_) (fun h6 => ?_)
          · skip
            refine hz_incN (pc := 133) (i := 3) (lo2 := [(3, .int (nI (t + 1))), (5, .int (nI 0)), (2, .int (nI (T.2))), (0, .ref B), (1, .int (nI nt))]) 2 (hz_dec kX12_tick 72 rfl) rfl (by decide) rfl ?_
            refine hz_goto (pc := 136) (tgt := 22) (hz_dec kX12_tick 73 rfl) (by decide) ?_
            refine hz_pick (pc := 22) [0, 2, 3, 4] rfl ?_
            exact ih (t + 1) _ _ M4 (by omega) (by omega) hf4 hR5 hE4.1 (hE4.2.trans hl4) eN
          · skip
            exact absurd (by first | exact h6 | exact Classical.byContradiction h6) h8w
