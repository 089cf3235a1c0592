/-! a message arrives: the reference -/
theorem mdN.mf {M M2 : hz_M} {B v : Nat} {N : nd_N} (h : mdN M B v N) (f : mfr B [86, 87, 88, 92] [70, 71, 72, 73, 74, 75, 76, 78] M M2) : mdN M2 B v N := ⟨h.1.mf f rfl rfl, h.2.1.mf f rfl, by rw [fA_m f (by decide) rfl]; exact h.2.2.1, by rw [fA_m f (by decide) rfl]; exact h.2.2.2⟩
theorem hmR.q {M M2 : hz_M} {z B : Nat} {H : ho_H} {s : mq_S} (h : hmR M z B H) (f : mfr B [86, 87, 88, 92] [70, 71, 72, 73, 74, 75, 76, 78] M M2) (hE : mdE M2 B) (hmg : mgR M2 B (hoN H).length (hoW H) (hoD H) s) : hmR M2 z B (hoq H s) := by
  obtain ⟨a1, a2, a3, a4, a5, a6, a7, a8⟩ := h
  exact ⟨a1.mf f rfl rfl, hE, hmg, fun v hv => (a4 v hv).mf f, by rw [fA_m f (by decide) rfl]; exact a5, (f.2.2 95 rfl).trans a6, ⟨(f.2.2 96 rfl).trans a7.1, (f.2.2 100 rfl).trans a7.2.1, a7.2.2.1, a7.2.2.2.1, by rw [fL_m f (by decide) rfl, fA_m f (by decide) rfl, fL_m f (by decide) rfl]; exact a7.2.2.2.2.1, by rw [fL_m f (by decide) rfl, fL_m f (by decide) rfl]; exact a7.2.2.2.2.2⟩, (f.2.2 103 rfl).trans a8⟩
set_option maxHeartbeats 4000000 in
set_option maxRecDepth 100000 in
theorem c_arm_c {κ : hz_C} {z B k0 b kd at_ : Nat} {fr : Int32} (h8 : 8 ≤ B) (hz : B + 88 ≤ z) (hk0 : k0 < 200) {l : by_L} (hl : l.length ≤ 4000) {M0 : hz_M} (hat : at_ + l.length ≤ 40000) (h75 : fA M0 B 75 k0 = nI at_) (h76 : isA (fA M0 B 76) at_ l) (h92 : fdB M0 B 92 = some (.int (nI l.length))) {P : hz_P} (K : ∀ M, mfr B [] [78] M0 M → mdE M B → isA (fA M B 78) 0 l → hz_W κ xX12_arrive 24 0 0 P 0 0 71 [(1, .int (nI k0)), (2, .int fr), (3, .int (nI b)), (4, .int (nI kd)), (0, .ref B)] [] z M) : ∀ k j M, k = l.length - j → j ≤ l.length → mfr B [] [78] M0 M → mdE M B → (∀ q, q < j → fA M B 78 q = lf l q) → hz_W κ xX12_arrive 24 0 0 P 0 0 35 [(5, .int (nI j)), (1, .int (nI k0)), (2, .int fr), (3, .int (nI b)), (4, .int (nI kd)), (0, .ref B)] [] z M := by
  intro k
  induction k using Nat.strongRecOn with
  | ind k ih =>
  intro j M hk hj hfr hE h78
  obtain ⟨fs, hO, hF⟩ := id hfr.2.1
  have g92 : fs[92]? = some (.int (nI l.length)) := (fdB_of hO 92).symm.trans ((hfr.2.2 92 rfl).trans h92)
  have h751 : fA M B 75 k0 = nI at_ := by rw [fA_m hfr (by decide) rfl]; exact h75
  have h761 : isA (fA M B 76) at_ l := by rw [fA_m hfr (by decide) rfl]; exact h76
  refine hz_bytes hE.a76 (by omega) (by omega) (fun hby => ?_)
  refine hz_iload (pc := 35) 0 (hz_dec kX12_arrive 23 rfl) rfl ?_
  refine hz_aloadn (pc := 37) 5 (hz_dec kX12_arrive 24 rfl) rfl ?_
  refine hz_get (pc := 38) (v := .int (nI (l.length))) (hz_dec kX12_arrive 25 rfl) fo_X12_637 hO h8 (by omega) g92 ?_
  refine hz_n_ge (pc := 41) (tgt := 71) (hz_dec kX12_arrive 26 rfl) (by decide) (by omega) (by omega) (fun h1 => ?_) (fun h1 => ?_)
  · skip
    have e : j = l.length := by omega
    refine hz_pick (pc := 71) [1, 2, 3, 4, 5] rfl ?_
    exact K M hfr hE (fun q hq => by rw [Nat.zero_add]; exact h78 q (by omega))
  · skip
    refine hz_aloadn (pc := 44) 5 (hz_dec kX12_arrive 27 rfl) rfl ?_
    refine hz_get (pc := 45) (v := .ref (B + 78)) (hz_dec kX12_arrive 28 rfl) fo_X12_255 hO h8 (by omega) (hF.2 91 (by decide) (by decide)) ?_
    refine hz_iload (pc := 48) 0 (hz_dec kX12_arrive 29 rfl) rfl ?_
    refine hz_aloadn (pc := 50) 5 (hz_dec kX12_arrive 30 rfl) rfl ?_
    refine hz_get (pc := 51) (v := .ref (B + 76)) (hz_dec kX12_arrive 31 rfl) fo_X12_249 hO h8 (by omega) (hF.2 85 (by decide) (by decide)) ?_
    refine hz_aloadn (pc := 54) 5 (hz_dec kX12_arrive 32 rfl) rfl ?_
    refine hz_get (pc := 55) (v := .ref (B + 75)) (hz_dec kX12_arrive 33 rfl) fo_X12_245 hO h8 (by omega) (hF.2 84 (by decide) (by decide)) ?_
    refine hz_iloadn (pc := 58) 1 (hz_dec kX12_arrive 34 rfl) rfl ?_
    refine hz_iald (pc := 59) (j := k0) (hz_dec kX12_arrive 35 rfl) hE.a75 (by omega) (by omega) rfl (by omega) (by decide) ?_
    refine hz_eqi (pc := 60) h751 ?_
    refine hz_iload (pc := 60) 0 (hz_dec kX12_arrive 36 rfl) rfl ?_
    refine hz_addN (pc := 62) (hz_dec kX12_arrive 37 rfl) ?_
    refine hz_bald (pc := 63) (j := at_ + j) (hz_dec kX12_arrive 38 rfl) hE.a76 (by omega) (by omega) rfl (by omega) (by decide) ?_
    refine hz_bast (pc := 64) (j := j) (hz_dec kX12_arrive 39 rfl) hE.a78 (by omega) (by omega) rfl (by omega) (by decide) ?_
    refine hz_incN (pc := 65) (i := 5) (lo2 := [(5, .int (nI (j + 1))), (1, .int (nI k0)), (2, .int fr), (3, .int (nI b)), (4, .int (nI kd)), (0, .ref B)]) 0 (hz_dec kX12_arrive 40 rfl) rfl (by decide) rfl ?_
    refine hz_goto (pc := 68) (tgt := 35) (hz_dec kX12_arrive 41 rfl) (by decide) ?_
    refine hz_pick (pc := 35) [0, 1, 2, 3, 4, 5] rfl ?_
    refine ih (l.length - (j + 1)) (by omega) (j + 1) _ rfl (by omega) (hfr.upA (o := 78) rfl (by decide)) (hE.upA (by decide)) ?_
    rw [fA_of (va_up_self _ _ _)]
    intro q hq
    rcases (show q = j ∨ q < j by omega) with e | c
    · rw [e, upd_s, hby _ (by omega)]; exact h761 j (by omega)
    · rw [upd_o (by omega)]; exact h78 q c
/-- what a call of the reference may change: its own cells, but not the FIRST block -/
def frM (B : Nat) (M M2 : hz_M) : Prop := frS [(B, B + 88)] M M2 ∧ M2 (B + 34) = M (B + 34) ∧ fdB M2 B 37 = fdB M B 37
theorem frM.tr {B : Nat} {M M2 M3 : hz_M} (h : frM B M M2) (h2 : frM B M2 M3) : frM B M M3 := ⟨h.1.tr h2.1, h2.2.1.trans h.2.1, h2.2.2.trans h.2.2⟩
theorem mfr.S {B : Nat} {ks os : List Nat} {M M2 : hz_M} (f : mfr B ks os M M2) (ho : (os.all (fun o => decide (o < 88)) && (!os.elem 34 && !ks.elem 37)) = true) : frM B M M2 := by
  obtain ⟨a1, a2⟩ := (Bool.and_eq_true _ _).mp ho
  obtain ⟨a3, a4⟩ := (Bool.and_eq_true _ _).mp a2
  have b3 : os.elem 34 = false := by cases e : os.elem 34 with
    | false => rfl
    | true => rw [e] at a3; cases a3
  have b4 : ks.elem 37 = false := by cases e : ks.elem 37 with
    | false => rfl
    | true => rw [e] at a4; cases a4
  exact ⟨fun q hq => f.out a1 (by have r := hq.1; omega), f.at 34 (by decide) b3, f.2.2 37 b4⟩
theorem hmR.rv {M M2 : hz_M} {z B : Nat} {H : ho_H} (h : hmR M z B H) (h6 : (hoN H).length ≤ 6) {m : ms_M} (hv : rcvI m < (hoN H).length) (hI : ∀ w, w < (hoN H).length → ksI (ndL (hoN H) w).1) {r : Option Value} {z2 : Nat} (p : rvP M z B (hoN H).length (rcvI m) (hoW H) (hoD H) (arV H m) r z2 M2) : hmR M2 z B (arS H m) := by
  obtain ⟨-, -, f, hE, g, hcw, hmg, e22, e23, hup, hdn⟩ := p
  have hN := h.2.2.2.1 _ hv
  refine h.put h6 hv hI f rfl rfl rfl rfl rfl rfl rfl rfl rfl rfl rfl rfl rfl hE g hcw hmg ?_
  unfold arN mdN
  simp only
  refine ⟨?_, ?_, by rw [e22, hN.2.2.1], by rw [e23, hN.2.2.2]⟩
  · cases e : (arV H m).2.1 with
    | true => rw [if_pos rfl, if_pos rfl]; exact (hup e).1
    | false => rw [if_neg (by decide), if_neg (by decide)]; exact (hdn e).1
  · cases e : (arV H m).2.1 with
    | true => rw [if_pos rfl]; exact (hup e).2
    | false => rw [if_neg (by decide)]; exact (hdn e).2
set_option maxHeartbeats 4000000 in
set_option maxRecDepth 100000 in
theorem c_arm {κ : hz_C} {z B : Nat} {M : hz_M} {H : ho_H} (hnn : (hoN H).length ≤ 6) (hR : hmR M z B H) (hX : hoX H) {k0 : Nat} (hk0 : k0 < (hoQ H).1.length) : hz_Mt κ xX12_arrive 24 0 0 [.ref B, .int (nI k0)] z M (fun r z2 M3 => some (.int (hz_b (ndL (hoN H) (rcvI (msL (hoQ H).1 k0))).2.1)) = r ∧ z = z2 ∧ frM B M M3 ∧ ((ndL (hoN H) (rcvI (msL (hoQ H).1 k0))).2.1 = true → hmR M3 z B (arS (hoq H ((hoQ H).1.eraseIdx k0, (hoQ H).2)) (msL (hoQ H).1 k0))) ∧ ((ndL (hoN H) (rcvI (msL (hoQ H).1 k0))).2.1 = false → hmR M3 z B (hoq H ((hoQ H).1.eraseIdx k0, (hoQ H).2 + 1)))) := by
  refine hz_ent (lo := [(0, .ref B), (1, .int (nI k0))]) (by decide) (Nat.le_of_ble_eq_true rfl) rfl ?_
  obtain ⟨hk, hE, ⟨m1, m2, m3⟩, hNd, a5, a6, a7, a8⟩ := id hR
  obtain ⟨⟨fs, hO, hF⟩, -, -, h8, hz⟩ := id hk
  obtain ⟨⟨x1, x2⟩, x3, x4, x5, x6, x7, x8⟩ := id m3
  have hm := hX.2.2 _ (msL_mem hk0)
  obtain ⟨s1, s2, s3, s4, s5, s6, s7, s8⟩ := hm.bs hnn
  obtain ⟨y1, y2, y3, y4⟩ := x1 k0 hk0
  obtain ⟨y5, y6, y7⟩ := x2 k0 hk0
  have hof : msO (hoQ H).1 k0 + (msL (hoQ H).1 k0).2.2.2.2.length ≤ 40000 := by have q := msO_mo (q := (hoQ H).1) (j := k0 + 1) (k := (hoQ H).1.length) (by omega); rw [msO_st] at q; omega
  generalize hmm : (msL (hoQ H).1 k0) = m at *
  refine hz_aloadn (pc := 0) 0 (hz_dec kX12_arrive 0 rfl) rfl ?_
  refine hz_get (pc := 1) (v := .ref (B + 70)) (hz_dec kX12_arrive 1 rfl) fo_X12_230 hO h8 (by omega) (hF.2 79 (by decide) (by decide)) ?_
  refine hz_iloadn (pc := 4) 1 (hz_dec kX12_arrive 2 rfl) rfl ?_
  refine hz_iald (pc := 5) (j := k0) (hz_dec kX12_arrive 3 rfl) hE.a70 (by omega) (by omega) rfl (by omega) (by decide) ?_
  refine hz_eqi (pc := 6) y1 ?_
  refine hz_istoren (pc := 6) (i := 2) (lo2 := [(2, .int m.1), (0, .ref B), (1, .int (nI k0))]) (hz_dec kX12_arrive 4 rfl) rfl (by decide) rfl ?_
  refine hz_aloadn (pc := 7) 1 (hz_dec kX12_arrive 5 rfl) rfl ?_
  refine hz_get (pc := 8) (v := .ref (B + 71)) (hz_dec kX12_arrive 6 rfl) fo_X12_233 hO h8 (by omega) (hF.2 80 (by decide) (by decide)) ?_
  refine hz_iloadn (pc := 11) 2 (hz_dec kX12_arrive 7 rfl) rfl ?_
  refine hz_iald (pc := 12) (j := k0) (hz_dec kX12_arrive 8 rfl) hE.a71 (by omega) (by omega) rfl (by omega) (by decide) ?_
  refine hz_eqi (pc := 13) (y2.trans s4) ?_
  refine hz_istoren (pc := 13) (i := 3) (lo2 := [(3, .int (nI (rcvI m))), (2, .int m.1), (0, .ref B), (1, .int (nI k0))]) (hz_dec kX12_arrive 9 rfl) rfl (by decide) rfl ?_
  refine hz_aloadn (pc := 14) 2 (hz_dec kX12_arrive 10 rfl) rfl ?_
  refine hz_get (pc := 15) (v := .ref (B + 72)) (hz_dec kX12_arrive 11 rfl) fo_X12_236 hO h8 (by omega) (hF.2 81 (by decide) (by decide)) ?_
  refine hz_iloadn (pc := 18) 3 (hz_dec kX12_arrive 12 rfl) rfl ?_
  refine hz_iald (pc := 19) (j := k0) (hz_dec kX12_arrive 13 rfl) hE.a72 (by omega) (by omega) rfl (by omega) (by decide) ?_
  refine hz_eqi (pc := 20) (y3.trans s7) ?_
  refine hz_istore (pc := 20) (i := 4) (lo2 := [(4, .int (nI (kdI m))), (3, .int (nI (rcvI m))), (2, .int m.1), (0, .ref B), (1, .int (nI k0))]) (hz_dec kX12_arrive 14 rfl) (by decide) rfl ?_
  refine hz_aloadn (pc := 22) 3 (hz_dec kX12_arrive 15 rfl) rfl ?_
  refine hz_aloadn (pc := 23) 3 (hz_dec kX12_arrive 16 rfl) rfl ?_
  refine hz_get (pc := 24) (v := .ref (B + 74)) (hz_dec kX12_arrive 17 rfl) fo_X12_242 hO h8 (by omega) (hF.2 83 (by decide) (by decide)) ?_
  refine hz_iloadn (pc := 27) 4 (hz_dec kX12_arrive 18 rfl) rfl ?_
  refine hz_iald (pc := 28) (j := k0) (hz_dec kX12_arrive 19 rfl) hE.a74 (by omega) (by omega) rfl (by omega) (by decide) ?_
  refine hz_eqi (pc := 29) y5 ?_
  refine hz_puti (pc := 29) (hz_dec kX12_arrive 20 rfl) fo_X12_637 ft_X12_92 hO h8 (by omega) (by rw [hF.1]; decide) ?_
  have hf1 : mfr B [92] [] M (va_up M B (.inr (12, (List.set fs 92 (.int (nI (m.2.2.2.2.length))))))) := (mfr.rf ⟨fs, hO, hF⟩).upO (k := 92) hO hF rfl rfl
  have hE1 : mdE (va_up M B (.inr (12, (List.set fs 92 (.int (nI (m.2.2.2.2.length))))))) B := hE.upO
  have h921 : fdB (va_up M B (.inr (12, (List.set fs 92 (.int (nI (m.2.2.2.2.length))))))) B 92 = some (.int (nI m.2.2.2.2.length)) := (fdB_of (va_up_self _ _ _) 92).trans (List.getElem?_set_self (by rw [hF.1]; decide))
  generalize (va_up M B (.inr (12, (List.set fs 92 (.int (nI (m.2.2.2.2.length))))))) = M1 at *
  refine hz_iconst (pc := 32) (v := nI 0) (hz_dec kX12_arrive 21 rfl) (by decide) ?_
  refine hz_istore (pc := 33) (i := 5) (lo2 := [(5, .int (nI 0)), (4, .int (nI (kdI m))), (3, .int (nI (rcvI m))), (2, .int m.1), (0, .ref B), (1, .int (nI k0))]) (hz_dec kX12_arrive 22 rfl) (by decide) rfl ?_
  refine hz_pick (pc := 35) [0, 5, 3, 2, 1, 4] rfl ?_
  refine c_arm_c h8 hz (by omega) s8 (M0 := M1) hof (by rw [fA_m hf1 (by decide) rfl]; exact y6) (by rw [fA_m hf1 (by decide) rfl]; exact y7) h921 (fun M2 hf2 hE2 h782 => ?_) m.2.2.2.2.length 0 M1 rfl (by omega) (mfr.rf hf1.2.1) hE1 (fun q hq => absurd hq (by omega))
  have hf12 : mfr B [86, 87, 88, 92] [70, 71, 72, 73, 74, 75, 76, 78] M M2 := (hf1.mono rfl rfl).tr (hf2.mono rfl rfl)
  have m32 := (m3.mf hf1 rfl rfl).mf hf2 rfl rfl
  obtain ⟨fs2, hO2, hF2⟩ := id hf2.2.1
  refine hz_aloadn (pc := 71) 4 (hz_dec kX12_arrive 42 rfl) rfl ?_
  refine hz_iloadn (pc := 72) 0 (hz_dec kX12_arrive 43 rfl) rfl ?_
  refine hz_callV (pc := 73) (a := B) (As := [.int (nI k0)]) (st := []) (hz_dec kX12_arrive 44 rfl) co_X12_711 im_X12_dropMessage se_X12_dropMessage rfl hO2 h8 (by omega) (c_mdrop hf2.2.1 hE2 h8 hz m32 hk0) rfl (by decide) ⟨Nat.le_refl _, Nat.le_refl _⟩ (Nat.le_of_ble_eq_true rfl) rfl (fun r9 z9 M3 hp9 => ?_)
  obtain ⟨rfl, rfl, hf3, hE3, hQ3⟩ := hp9
  have hf13 : mfr B [86, 87, 88, 92] [70, 71, 72, 73, 74, 75, 76, 78] M M3 := hf12.tr (hf3.mono rfl rfl)
  have hmg3 : mgR M3 B (hoN H).length (hoW H) (hoD H) ((hoQ H).1.eraseIdx k0, (hoQ H).2) := ⟨(hf13.2.2 1 rfl).trans m1, by unfold mdD; rw [fA_m hf13 (by decide) rfl]; exact m2, hQ3⟩
  have hR3 : hmR M3 z B (hoq H ((hoQ H).1.eraseIdx k0, (hoQ H).2)) := hR.q hf13 hE3 hmg3
  have hN3 := (hR3.2.2.2.1 (rcvI m) s3).1.1
  replace hN3 : fA M3 B 16 (rcvI m) = hz_b (ndL (hoN H) (rcvI m)).2.1 := hN3
  obtain ⟨fs3, hO3, hF3⟩ := id hf3.2.1
  have g88 : fs3[88]? = some (.int (hoQ H).2) := (fdB_of hO3 88).symm.trans hQ3.2.2.2.2.2.1
  have h783 : isA (fA M3 B 78) 0 m.2.2.2.2 := by rw [fA_m hf3 (by decide) rfl]; exact h782
  have h923 := (hf3.2.2 92 rfl).trans ((hf2.2.2 92 rfl).trans h921)
  refine hz_aloadn (pc := 76) 4 (hz_dec kX12_arrive 45 rfl) rfl ?_
  refine hz_get (pc := 77) (v := .ref (B + 16)) (hz_dec kX12_arrive 46 rfl) fo_X12_57 hO3 h8 (by omega) (hF3.2 18 (by decide) (by decide)) ?_
  refine hz_iloadn (pc := 80) 2 (hz_dec kX12_arrive 47 rfl) rfl ?_
  refine hz_zald (pc := 81) (j := rcvI m) (hz_dec kX12_arrive 48 rfl) hE3.a16 (by omega) (by omega) rfl (by omega) (by decide) ?_
  refine hz_eqi (pc := 82) hN3 ?_
  refine hz_if_ne (pc := 82) (tgt := 97) (hz_dec kX12_arrive 49 rfl) (by decide) (fun h3 => ?_) (fun h3 => ?_)
  · skip
    have hu := hz_b1 h3
    refine hz_aloadn (pc := 97) 4 (hz_dec kX12_arrive 58 rfl) rfl ?_
    refine hz_iloadn (pc := 98) 2 (hz_dec kX12_arrive 59 rfl) rfl ?_
    refine hz_iloadn (pc := 99) 1 (hz_dec kX12_arrive 60 rfl) rfl ?_
    refine hz_iload (pc := 100) 3 (hz_dec kX12_arrive 61 rfl) rfl ?_
    have hk3 := hR3.1
    have hNN := hR3.2.2.2.1 (rcvI m) s3
    have hu2 : (ndL (hoN (hoq H ((hoQ H).1.eraseIdx k0, (hoQ H).2))) (rcvI m)).2.1 = true := hu
    unfold mdN at hNN
    rw [hu2, if_pos rfl, if_pos rfl, if_pos rfl] at hNN
    have hq : hz_Mt κ xX12_receive 23 0 0 [.ref B, .int (nI (rcvI m)), .int m.1, .int (nI (kdI m))] z M3 (rvP M3 z B (hoN H).length (rcvI m) (hoW H) (hoD H) (arV (hoq H ((hoQ H).1.eraseIdx k0, (hoQ H).2)) m)) := by
      have hto : (∃ c, c < 6 ∧ m.1 = nI c ∧ hoD H (6 * rcvI m + sdI m) = hoD H (6 * rcvI m + c)) ∨ (m.1 < 0 ∧ hoD H (6 * rcvI m + sdI m) = 0) := Or.inl ⟨sdI m, by omega, s2, rfl⟩
      have hI3 : ksI (ksq (ndL (hoN H) (rcvI m)).1 ((hoQ H).1.eraseIdx k0, (hoQ H).2)) := ksq_I (hX.1 _ s3)
      unfold arV
      rcases (show kdI m = 1 ∨ kdI m = 2 ∨ kdI m = 3 ∨ kdI m = 4 ∨ kdI m = 5 ∨ kdI m = 6 by omega) with e | e | e | e | e | e
      · rw [e]; exact c_rcv1 (S := ksq (ndL (hoN H) (rcvI m)).1 ((hoQ H).1.eraseIdx k0, (hoQ H).2)) hnn s3 hto hk3 hE3 hmg3 hNN.1 hNN.2.1 hI3 s8 h783 h923
      · rw [e]; exact c_rcv2 (S := ksq (ndL (hoN H) (rcvI m)).1 ((hoQ H).1.eraseIdx k0, (hoQ H).2)) hnn s3 hto hk3 hE3 hmg3 hNN.1 hNN.2.1 hI3 s8 h783 h923
      · rw [e]; exact c_rcv3 (S := ksq (ndL (hoN H) (rcvI m)).1 ((hoQ H).1.eraseIdx k0, (hoQ H).2)) hnn s3 hto hk3 hE3 hmg3 hNN.1 hNN.2.1 hI3 s8 h783 h923
      · rw [e]; exact c_rcv4 (S := ksq (ndL (hoN H) (rcvI m)).1 ((hoQ H).1.eraseIdx k0, (hoQ H).2)) hnn s3 hto hk3 hE3 hmg3 hNN.1 hNN.2.1 hI3 s8 h783 h923
      · rw [e]; exact c_rcv5 (S := ksq (ndL (hoN H) (rcvI m)).1 ((hoQ H).1.eraseIdx k0, (hoQ H).2)) hnn s3 hto hk3 hE3 hmg3 hNN.1 hNN.2.1 hI3 s8 h783 h923
      · rw [e]; exact c_rcv6 (S := ksq (ndL (hoN H) (rcvI m)).1 ((hoQ H).1.eraseIdx k0, (hoQ H).2)) hnn s3 hto hk3 hE3 hmg3 hNN.1 hNN.2.1 hI3 s8 h783 h923
    refine hz_callV (pc := 102) (a := B) (As := [.int (nI (rcvI m)), .int m.1, .int (nI (kdI m))]) (st := []) (hz_dec kX12_arrive 62 rfl) co_X12_705 im_X12_receive se_X12_receive rfl hO3 h8 (by omega) (hq) rfl (by decide) ⟨Nat.le_refl _, Nat.le_refl _⟩ (Nat.le_of_ble_eq_true rfl) rfl (fun r9 z9 M4 hp9 => ?_)
    obtain ⟨⟨rv, rfl⟩, rfl, hp4⟩ := hp9
    have hR4 := hR3.rv (m := m) (r := some (.int rv)) hnn s3 hX.1 ⟨⟨rv, rfl⟩, rfl, hp4⟩
    refine hz_istore (pc := 105) (i := 5) (lo2 := [(5, .int rv), (1, .int (nI k0)), (2, .int m.1), (3, .int (nI (rcvI m))), (4, .int (nI (kdI m))), (0, .ref B)]) (hz_dec kX12_arrive 63 rfl) (by decide) rfl ?_
    refine hz_iconst (pc := 107) (v := nI 1) (hz_dec kX12_arrive 64 rfl) (by decide) ?_
    exact hz_iret (pc := 108) (hz_dec kX12_arrive 65 rfl) rfl ⟨by rw [hu]; rfl, rfl, (hf13.S rfl).tr (hp4.1.S rfl), fun _ => hR4, fun q => by rw [hu] at q; cases q⟩
  · skip
    have hu := hz_b0 h3
    refine hz_aloadn (pc := 85) 4 (hz_dec kX12_arrive 50 rfl) rfl ?_
    refine hz_dup (pc := 86) (hz_dec kX12_arrive 51 rfl) rfl ?_
    refine hz_get (pc := 87) (v := .int ((hoQ H).2)) (hz_dec kX12_arrive 52 rfl) fo_X12_616 hO3 h8 (by omega) g88 ?_
    refine hz_iconst (pc := 90) (v := nI 1) (hz_dec kX12_arrive 53 rfl) (by decide) ?_
    refine hz_iadd (pc := 91) (hz_dec kX12_arrive 54 rfl) ?_
    refine hz_puti (pc := 92) (hz_dec kX12_arrive 55 rfl) fo_X12_616 ft_X12_88 hO3 h8 (by omega) (by rw [hF3.1]; decide) ?_
    have hf4 : mfr B [88] [] M3 (va_up M3 B (.inr (12, (List.set fs3 88 (.int (((hoQ H).2) + (nI (1)))))))) := (mfr.rf hf3.2.1).upO (k := 88) hO3 hF3 rfl rfl
    have h884 : fdB (va_up M3 B (.inr (12, (List.set fs3 88 (.int (((hoQ H).2) + (nI (1)))))))) B 88 = some (.int ((hoQ H).2 + 1)) := (fdB_of (va_up_self _ _ _) 88).trans (List.getElem?_set_self (by rw [hF3.1]; decide))
    have hQ4 : mqR (va_up M3 B (.inr (12, (List.set fs3 88 (.int (((hoQ H).2) + (nI (1)))))))) B ((hoQ H).1.eraseIdx k0) (hoW H) ((hoQ H).2 + 1) := ⟨hQ3.1.mf hf4 rfl, hQ3.2.1, hQ3.2.2.1, (hf4.2.2 86 rfl).trans hQ3.2.2.2.1, (hf4.2.2 87 rfl).trans hQ3.2.2.2.2.1, h884, (hf4.2.2 89 rfl).trans hQ3.2.2.2.2.2.2⟩
    have hR4 : hmR (va_up M3 B (.inr (12, (List.set fs3 88 (.int (((hoQ H).2) + (nI (1)))))))) z B (hoq H ((hoQ H).1.eraseIdx k0, (hoQ H).2 + 1)) := hmR.q (H := hoq H ((hoQ H).1.eraseIdx k0, (hoQ H).2)) (s := ((hoQ H).1.eraseIdx k0, (hoQ H).2 + 1)) hR3 (hf4.mono rfl rfl) hE3.upO ⟨(hf4.2.2 1 rfl).trans hmg3.1, by unfold mdD; rw [fA_m hf4 (by decide) rfl]; exact hmg3.2.1, hQ4⟩
    refine hz_iconst (pc := 95) (v := nI 0) (hz_dec kX12_arrive 56 rfl) (by decide) ?_
    exact hz_iret (pc := 96) (hz_dec kX12_arrive 57 rfl) rfl ⟨by rw [hu]; rfl, rfl, (hf13.S rfl).tr (hf4.S rfl), (fun q => by rw [hu] at q; cases q), fun _ => hR4⟩
