/-! tick: the reference, its entry -/
set_option maxHeartbeats 4000000 in
set_option maxRecDepth 100000 in
theorem c_rtick {κ : hz_C} {z B : Nat} {M : hz_M} {H : ho_H} (hnn : (hoN H).length ≤ 6) (hR : hmR M z B H) (hX : hoX H) {nt : Nat} (h1 : 1 ≤ nt) (h64 : nt ≤ 64) : hz_Mt κ xX12_tick 25 0 0 [.ref B, .int (nI nt)] z M (fun r z2 M3 => some (.int (nI (tkN nt H 0).2)) = r ∧ z = z2 ∧ frM B M M3 ∧ hmR M3 z B (tkN nt H 0).1) := by
  refine hz_ent (lo := [(0, .ref B), (1, .int (nI nt))]) (by decide) (Nat.le_of_ble_eq_true rfl) rfl ?_
  obtain ⟨hk0, hE0, ⟨m1, m2, m3⟩, hNd, a5, a6, a7, a8⟩ := id hR
  obtain ⟨⟨fs, hO, hF⟩, -, -, h8, hz⟩ := id hk0
  obtain ⟨x1, x3, x4, x5, x6, x7, x8⟩ := id m3
  refine hz_aloadn (pc := 0) 0 (hz_dec kX12_tick 0 rfl) rfl ?_
  refine hz_iconst (pc := 1) (v := nI 0) (hz_dec kX12_tick 1 rfl) (by decide) ?_
  refine hz_puti (pc := 2) (hz_dec kX12_tick 2 rfl) fo_X12_302 ft_X12_0 hO h8 (by omega) (by rw [hF.1]; decide) ?_
  have hf1 : mfr B [0, 89] [] M (va_up M B (.inr (12, (List.set fs 0 (.int (nI 0)))))) := (mfr.rf ⟨fs, hO, hF⟩).upO (k := 0) hO hF rfl rfl
  have hR1 : hmR (va_up M B (.inr (12, (List.set fs 0 (.int (nI 0)))))) z B H := hR.m0 hf1 hE0.upO ((fdB_of (va_up_self _ _ _) 89).trans ((List.getElem?_set_ne (by decide)).trans ((fdB_of hO 89).symm.trans x8)))
  generalize (va_up M B (.inr (12, (List.set fs 0 (.int (nI 0)))))) = M1 at *
  refine hz_iloadn (pc := 5) 1 (hz_dec kX12_tick 3 rfl) rfl ?_
  refine hz_iconst (pc := 6) (v := nI 1) (hz_dec kX12_tick 4 rfl) (by decide) ?_
  refine hz_n_lt (pc := 7) (tgt := 16) (hz_dec kX12_tick 5 rfl) (by decide) (by omega) (by omega) (fun h2 => ?_) (fun h2 => ?_)
  · skip
    exact absurd h2 (by omega)
  · skip
    refine hz_iloadn (pc := 10) 1 (hz_dec kX12_tick 6 rfl) rfl ?_
    refine hz_bipush (pc := 11) (v := nI 64) (hz_dec kX12_tick 7 rfl) (by decide) ?_
    refine hz_n_le (pc := 13) (tgt := 18) (hz_dec kX12_tick 8 rfl) (by decide) (by omega) (by omega) (fun h3 => ?_) (fun h3 => ?_)
    · skip
      refine hz_iconst (pc := 18) (v := nI 0) (hz_dec kX12_tick 11 rfl) (by decide) ?_
      refine hz_istoren (pc := 19) (i := 2) (lo2 := [(2, .int (nI 0)), (0, .ref B), (1, .int (nI nt))]) (hz_dec kX12_tick 12 rfl) rfl (by decide) rfl ?_
      refine hz_iconst (pc := 20) (v := nI 0) (hz_dec kX12_tick 13 rfl) (by decide) ?_
      refine hz_istoren (pc := 21) (i := 3) (lo2 := [(3, .int (nI 0)), (2, .int (nI 0)), (0, .ref B), (1, .int (nI nt))]) (hz_dec kX12_tick 14 rfl) rfl (by decide) rfl ?_
      refine hz_pick (pc := 22) [0, 1, 2, 3] rfl ?_
      exact c_rk_o hnn h64 nt 0 H 0 M1 rfl (by omega) (hf1.S rfl) hR1 hX rfl rfl
    · skip
      exact absurd h3 (by omega)
set_option maxHeartbeats 4000000 in
set_option maxRecDepth 100000 in
theorem c_rtickB {κ : hz_C} {z B : Nat} {M : hz_M} {H : ho_H} (hnn : (hoN H).length ≤ 6) (hR : hmR M z B H) (hX : hoX H) {n : Int32} (hn : n < nI 1 ∨ ¬ n ≤ nI 64) : hz_Mt κ xX12_tick 25 0 0 [.ref B, .int n] z M (fun r z2 M3 => some (.int (-1)) = r ∧ z = z2 ∧ frM B M M3 ∧ hmR M3 z B H) := by
  refine hz_ent (lo := [(0, .ref B), (1, .int n)]) (by decide) (Nat.le_of_ble_eq_true rfl) rfl ?_
  obtain ⟨hk0, hE0, ⟨m1, m2, m3⟩, hNd, a5, a6, a7, a8⟩ := id hR
  obtain ⟨⟨fs, hO, hF⟩, -, -, h8, hz⟩ := id hk0
  obtain ⟨x1, x3, x4, x5, x6, x7, x8⟩ := id m3
  refine hz_aloadn (pc := 0) 0 (hz_dec kX12_tick 0 rfl) rfl ?_
  refine hz_iconst (pc := 1) (v := nI 0) (hz_dec kX12_tick 1 rfl) (by decide) ?_
  refine hz_puti (pc := 2) (hz_dec kX12_tick 2 rfl) fo_X12_302 ft_X12_0 hO h8 (by omega) (by rw [hF.1]; decide) ?_
  have hf1 : mfr B [0, 89] [] M (va_up M B (.inr (12, (List.set fs 0 (.int (nI 0)))))) := (mfr.rf ⟨fs, hO, hF⟩).upO (k := 0) hO hF rfl rfl
  have hR1 : hmR (va_up M B (.inr (12, (List.set fs 0 (.int (nI 0)))))) z B H := hR.m0 hf1 hE0.upO ((fdB_of (va_up_self _ _ _) 89).trans ((List.getElem?_set_ne (by decide)).trans ((fdB_of hO 89).symm.trans x8)))
  generalize (va_up M B (.inr (12, (List.set fs 0 (.int (nI 0)))))) = M1 at *
  refine hz_iloadn (pc := 5) 1 (hz_dec kX12_tick 3 rfl) rfl ?_
  refine hz_iconst (pc := 6) (v := nI 1) (hz_dec kX12_tick 4 rfl) (by decide) ?_
  refine hz_icmp_lt (pc := 7) (tgt := 16) (hz_dec kX12_tick 5 rfl) (by decide) (fun h2 => ?_) (fun h2 => ?_)
  · skip
    refine hz_iconst (pc := 16) (v := (-1)) (hz_dec kX12_tick 9 rfl) (by decide) ?_
    exact hz_iret (pc := 17) (hz_dec kX12_tick 10 rfl) rfl ⟨rfl, rfl, hf1.S rfl, hR1⟩
  · skip
    refine hz_iloadn (pc := 10) 1 (hz_dec kX12_tick 6 rfl) rfl ?_
    refine hz_bipush (pc := 11) (v := nI 64) (hz_dec kX12_tick 7 rfl) (by decide) ?_
    refine hz_icmp_le (pc := 13) (tgt := 18) (hz_dec kX12_tick 8 rfl) (by decide) (fun h3 => ?_) (fun h3 => ?_)
    · skip
      exact absurd h3 (hn.resolve_left h2)
    · skip
      refine hz_iconst (pc := 16) (v := (-1)) (hz_dec kX12_tick 9 rfl) (by decide) ?_
      exact hz_iret (pc := 17) (hz_dec kX12_tick 10 rfl) rfl ⟨rfl, rfl, hf1.S rfl, hR1⟩
