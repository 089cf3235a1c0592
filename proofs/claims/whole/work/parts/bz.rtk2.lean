/-! tick: the reference, whole -/
theorem mdN.m0 {M M2 : hz_M} {B v : Nat} {N : nd_N} (h : mdN M B v N) (f : mfr B [0, 89] [] M M2) : mdN M2 B v N := ⟨h.1.mf f rfl rfl, h.2.1.mf f rfl, by rw [fA_m f (by decide) rfl]; exact h.2.2.1, by rw [fA_m f (by decide) rfl]; exact h.2.2.2⟩
theorem hmR.m0 {M M2 : hz_M} {z B : Nat} {H : ho_H} {now : Int32} (h : hmR M z B H) (f : mfr B [0, 89] [] M M2) (hE : mdE M2 B) (h89 : fdB M2 B 89 = some (.int now)) : hmR M2 z B (hoN H, hoQ H, now, hoD H, hoT H, hoI H, hoU H, hoE H) := by
  obtain ⟨a1, a2, ⟨m1, m2, x1, x3, x4, x5, x6, x7, x8⟩, a4, a5, a6, a7, a8⟩ := h
  exact ⟨a1.mf f rfl rfl, hE, ⟨(f.2.2 1 rfl).trans m1, by unfold mdD; rw [fA_m f (by decide) rfl]; exact m2, x1.mf f rfl, x3, x4, (f.2.2 86 rfl).trans x5, (f.2.2 87 rfl).trans x6, (f.2.2 88 rfl).trans x7, h89⟩, fun v hv => (a4 v hv).m0 f, by rw [fA_m f (by decide) rfl]; exact a5, (f.2.2 95 rfl).trans a6, ⟨(f.2.2 96 rfl).trans a7.1, (f.2.2 100 rfl).trans a7.2.1, a7.2.2.1, a7.2.2.2.1, by rw [fL_m f (by decide) rfl, fA_m f (by decide) rfl, fL_m f (by decide) rfl]; exact a7.2.2.2.2.1, by rw [fL_m f (by decide) rfl, fL_m f (by decide) rfl]; exact a7.2.2.2.2.2⟩, (f.2.2 103 rfl).trans a8⟩
set_option maxHeartbeats 4000000 in
set_option maxRecDepth 100000 in
theorem c_rk_t {κ : hz_C} {z B : Nat} {M : hz_M} {H : ho_H} (hnn : (hoN H).length ≤ 6) (hX : hoX H) (h8w : hoW H - hoW H / (nI 8) * (nI 8) = 0) {c tt nt : Nat} {P : hz_P} (K : ∀ M2, frM B M M2 → hmR M2 z B (tkE H) → hz_W κ xX12_tick 25 0 0 P 0 0 133 [(2, .int (nI c)), (3, .int (nI tt)), (0, .ref B), (1, .int (nI nt))] [] z M2) : ∀ k i M2, k = (hoN H).length - i → i ≤ (hoN H).length → frM B M M2 → hmR M2 z B (hoq H (ttQ (hoN H) (hoD H) (hoW H) i (hoQ H))) → hz_W κ xX12_tick 25 0 0 P 0 0 84 [(5, .int (nI i)), (2, .int (nI c)), (3, .int (nI tt)), (0, .ref B), (1, .int (nI nt))] [] z M2 := by
  intro k
  induction k using Nat.strongRecOn with
  | ind k ih =>
  intro i M2 hk hi hf hR
  generalize hs : (ttQ (hoN H) (hoD H) (hoW H) i (hoQ H)) = s at hR
  obtain ⟨hk0, hE0, ⟨m1, m2, m3⟩, hNd, a5, a6, a7, a8⟩ := id hR
  replace m1 : fdB M2 B 1 = some (.int (nI (hoN H).length)) := m1
  replace m2 : mdD M2 B (hoD H) := m2
  replace m3 : mqR M2 B s.1 (hoW H) s.2 := m3
  replace hNd : ∀ v, v < (hoN H).length → mdN M2 B v (ndL (hoN H) v) := hNd
  obtain ⟨⟨fs, hO, hF⟩, -, -, h8, hz⟩ := id hk0
  obtain ⟨x1, x3, x4, x5, x6, x7, x8⟩ := id m3
  have g1 : fs[1]? = some (.int (nI (hoN H).length)) := (fdB_of hO 1).symm.trans m1
  have g89 : fs[89]? = some (.int (hoW H)) := (fdB_of hO 89).symm.trans x8
  refine hz_iload (pc := 84) 0 (hz_dec kX12_tick 48 rfl) rfl ?_
  refine hz_aloadn (pc := 86) 3 (hz_dec kX12_tick 49 rfl) rfl ?_
  refine hz_get (pc := 87) (v := .int (nI ((hoN H).length))) (hz_dec kX12_tick 50 rfl) fo_X12_289 hO h8 (by omega) g1 ?_
  refine hz_n_ge (pc := 90) (tgt := 133) (hz_dec kX12_tick 51 rfl) (by decide) (by omega) (by omega) (fun h1 => ?_) (fun h1 => ?_)
  · skip
    have e : i = (hoN H).length := by omega
    have hs2 : (ttQ (hoN H) (hoD H) (hoW H) (hoN H).length (hoQ H)) = s := e ▸ hs
    refine hz_pick (pc := 133) [1, 2, 3, 4] rfl ?_
    exact K M2 hf (by rw [tkE_y h8w, hs2]; exact hR)
  · skip
    have hn := hNd i h1
    have hIi := hX.1 i h1
    have htop := hIi.1.top
    refine hz_aloadn (pc := 93) 3 (hz_dec kX12_tick 52 rfl) rfl ?_
    refine hz_get (pc := 94) (v := .int (hoW H)) (hz_dec kX12_tick 53 rfl) fo_X12_619 hO h8 (by omega) g89 ?_
    refine hz_bipush (pc := 97) (v := nI 8) (hz_dec kX12_tick 54 rfl) (by decide) ?_
    refine hz_irem (pc := 99) (hz_dec kX12_tick 55 rfl) (by decide) ?_
    refine hz_if_ne (pc := 100) (tgt := 133) (hz_dec kX12_tick 56 rfl) (by decide) (fun h2 => ?_) (fun h2 => ?_)
    · skip
      exact absurd h8w h2
    · skip
      refine hz_aloadn (pc := 103) 3 (hz_dec kX12_tick 57 rfl) rfl ?_
      refine hz_get (pc := 104) (v := .ref (B + 16)) (hz_dec kX12_tick 58 rfl) fo_X12_57 hO h8 (by omega) (hF.2 18 (by decide) (by decide)) ?_
      refine hz_iload (pc := 107) 0 (hz_dec kX12_tick 59 rfl) rfl ?_
      refine hz_zald (pc := 109) (j := i) (hz_dec kX12_tick 60 rfl) hE0.a16 (by omega) (by omega) rfl (by omega) (by decide) ?_
      refine hz_eqi (pc := 110) hn.1.1 ?_
      refine hz_if_eq (pc := 110) (tgt := 127) (hz_dec kX12_tick 61 rfl) (by decide) (fun h3 => ?_) (fun h3 => ?_)
      · skip
        have hu0 := hz_b0 h3
        refine hz_incN (pc := 127) (i := 5) (lo2 := [(5, .int (nI (i + 1))), (2, .int (nI c)), (3, .int (nI tt)), (0, .ref B), (1, .int (nI nt))]) 0 (hz_dec kX12_tick 70 rfl) rfl (by decide) rfl ?_
        refine hz_goto (pc := 130) (tgt := 84) (hz_dec kX12_tick 71 rfl) (by decide) ?_
        refine hz_pick (pc := 84) [0, 1, 2, 3, 4] rfl ?_
        refine ih ((hoN H).length - (i + 1)) (by omega) (i + 1) M2 rfl (by omega) hf ?_
        unfold ttQ
        rw [show (ndL (hoN H) i).2.1 = false from hu0, hs]
        exact hR
      · skip
        have hu1 := hz_b1 h3
        refine hz_aloadn (pc := 113) 3 (hz_dec kX12_tick 62 rfl) rfl ?_
        refine hz_iload (pc := 114) 0 (hz_dec kX12_tick 63 rfl) rfl ?_
        refine hz_aloadn (pc := 116) 3 (hz_dec kX12_tick 64 rfl) rfl ?_
        refine hz_get (pc := 117) (v := .ref (B + 21)) (hz_dec kX12_tick 65 rfl) fo_X12_74 hO h8 (by omega) (hF.2 23 (by decide) (by decide)) ?_
        refine hz_iload (pc := 120) 0 (hz_dec kX12_tick 66 rfl) rfl ?_
        refine hz_iald (pc := 122) (j := i) (hz_dec kX12_tick 67 rfl) hE0.a21 (by omega) (by omega) rfl (by omega) (by decide) ?_
        refine hz_eqi (pc := 123) hn.1.2.2.2.2.1.2.1.2.1 ?_
        refine hz_iconst (pc := 123) (v := (-1)) (hz_dec kX12_tick 68 rfl) (by decide) ?_
        refine hz_callV (pc := 124) (a := B) (As := [.int (nI i), .int (nI (ksT (ndL (hoN H) i).1)), .int (-1)]) (st := []) (hz_dec kX12_tick 69 rfl) co_X12_600 im_X12_tellAll se_X12_tellAll rfl hO h8 (by omega) (c_tAll (bl := ksB (ndL (hoN H) i).1) (tip := ksT (ndL (hoN H) i).1) hk0.1 hE0 h8 hz hnn m1 m2 h1 (by omega) hn.1.2.2.2.2.1.2.1 hIi.2.1 m3) rfl (by decide) ⟨Nat.le_refl _, Nat.le_refl _⟩ (Nat.le_of_ble_eq_true rfl) rfl (fun r9 z9 M3 hp9 => ?_)
        obtain ⟨rfl, rfl, hf3, hE3, hQ3⟩ := hp9
        have hR3 : hmR M3 z B (hoq H (tlQ (hoD H) (hoW H) i (-1) (nI 1) (haS (bBy (ksB (ndL (hoN H) i).1) (ksT (ndL (hoN H) i).1))) (hoN H).length s)) := hmR.q (H := hoq H s) hR (hf3.mono rfl rfl) hE3 ⟨(hf3.2.2 1 rfl).trans m1, by unfold mdD; rw [fA_m hf3 (by decide) rfl]; exact m2, hQ3⟩
        refine hz_incN (pc := 127) (i := 5) (lo2 := [(5, .int (nI (i + 1))), (2, .int (nI c)), (3, .int (nI tt)), (0, .ref B), (1, .int (nI nt))]) 0 (hz_dec kX12_tick 70 rfl) rfl (by decide) rfl ?_
        refine hz_goto (pc := 130) (tgt := 84) (hz_dec kX12_tick 71 rfl) (by decide) ?_
        refine hz_pick (pc := 84) [0, 1, 2, 3, 4] rfl ?_
        refine ih ((hoN H).length - (i + 1)) (by omega) (i + 1) M3 rfl (by omega) (hf.tr (hf3.S rfl)) ?_
        unfold ttQ
        rw [show (ndL (hoN H) i).2.1 = true from hu1, hs, if_pos rfl]
        exact hR3
