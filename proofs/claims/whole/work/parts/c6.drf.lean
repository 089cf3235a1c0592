/-! draft and keys -/
set_option maxHeartbeats 4000000 in
set_option maxRecDepth 100000 in
theorem c_begin {κ : hz_C} {z : Nat} {M : hz_M} {H : ho_H} (hz : 63 + 34 * (hoN H).length ≤ z) (hnn : (hoN H).length ≤ 6) (hT4 : (hoT H).length ≤ 4000) {ll : Nat} {fr kn : Int32} (hR : hcR M z H ll fr kn)  : hz_Mt κ xX11_begin 0 0 0 [.ref 8] z M (hcP M z H (.int (nI ((hoI H).length + (hoU H).length))) (hod H [] [])) := by
  refine hz_ent (lo := [(0, .ref 8)]) (by decide) (Nat.le_of_ble_eq_true rfl) rfl ?_
  have hH := hR.1
  have hNs := hR.2.1
  obtain ⟨hO, hQ, hD⟩ := id hR.2.2.2.2.1
  obtain ⟨g53, h53⟩ := hR.2.2.2.2.2.1
  have hJ := hR.2.2.2.1
  obtain ⟨g56, h56, hT56⟩ := hR.2.2.2.2.2.2.2.2.2.1
  have hdf := hR.2.2.2.2.2.2.2.2.2.2
  have hck : ck_k M z := hJ.2.2.2.2.2.2.2.1
  have hcs : ck_s M := hJ.2.2.2.2.2.2.2.2.1
  have hz63 : 63 ≤ z := by omega
  obtain ⟨d1, d2, d3, ⟨f1, f2, f3, e1, e2, e3, -⟩, f4, f5, e4, e5, -⟩ := id hdf
  refine hz_aloadn (pc := 0) 0 (hz_dec kX11_begin 0 rfl) rfl ?_
  refine hz_get (pc := 1) (hz_dec kX11_begin 1 rfl) fo_X11_53 hH (by omega) (by omega) rfl ?_
  refine hz_get (pc := 4) (hz_dec kX11_begin 2 rfl) fo_X11_152 hdf.1 (by omega) (by omega) rfl ?_
  refine hz_aloadn (pc := 7) 0 (hz_dec kX11_begin 3 rfl) rfl ?_
  refine hz_get (pc := 8) (hz_dec kX11_begin 4 rfl) fo_X11_53 hH (by omega) (by omega) rfl ?_
  refine hz_get (pc := 11) (hz_dec kX11_begin 5 rfl) fo_X11_155 hdf.1 (by omega) (by omega) rfl ?_
  refine hz_addN (pc := 14) (hz_dec kX11_begin 6 rfl) ?_
  refine hz_istoren (pc := 15) (i := 1) (lo2 := [(1, .int (nI (((hoI H).length) + ((hoU H).length)))), (0, .ref 8)]) (hz_dec kX11_begin 7 rfl) rfl (by decide) rfl ?_
  refine hz_aloadn (pc := 16) 1 (hz_dec kX11_begin 8 rfl) rfl ?_
  refine hz_get (pc := 17) (hz_dec kX11_begin 9 rfl) fo_X11_53 hH (by omega) (by omega) rfl ?_
  refine hz_iconst (pc := 20) (v := nI 0) (hz_dec kX11_begin 10 rfl) (by decide) ?_
  refine hz_puti (pc := 21) (hz_dec kX11_begin 11 rfl) fo_X11_152 ft_X2_0 hdf.1 (by omega) (by omega) (Nat.le_of_ble_eq_true rfl) ?_
  refine hz_mem (pc := 24) (M2 := (va_up M 39 (.inr (2, [.int (nI 0), .ref 40, .ref 41, .ref 42, .int (nI ((hoU H).length)), .ref 43, .ref 44])))) rfl ?_
  refine hz_aloadn (pc := 24) 1 (hz_dec kX11_begin 12 rfl) rfl ?_
  refine hz_get (pc := 25) (hz_dec kX11_begin 13 rfl) fo_X11_53 (hz_mne hH (by omega)) (by omega) (by omega) rfl ?_
  refine hz_iconst (pc := 28) (v := nI 0) (hz_dec kX11_begin 14 rfl) (by decide) ?_
  refine hz_puti (pc := 29) (hz_dec kX11_begin 15 rfl) fo_X11_155 ft_X2_4 (va_up_self _ _ _) (by omega) (by omega) (Nat.le_of_ble_eq_true rfl) ?_
  refine hz_mem (pc := 32) (M2 := (va_up (va_up M 39 (.inr (2, [.int (nI 0), .ref 40, .ref 41, .ref 42, .int (nI ((hoU H).length)), .ref 43, .ref 44]))) 39 (.inr (2, [.int (nI 0), .ref 40, .ref 41, .ref 42, .int (nI 0), .ref 43, .ref 44])))) rfl ?_
  refine hz_mem (pc := 32) (M2 := (va_up M 39 (.inr (2, [.int (nI 0), .ref 40, .ref 41, .ref 42, .int (nI 0), .ref 43, .ref 44])))) (bx_uu _ _ _ _) ?_
  refine hz_iloadn (pc := 32) 0 (hz_dec kX11_begin 16 rfl) rfl ?_
  have hf : frS [(39, 45)] M (va_up M 39 (.inr (2, [.int (nI 0), .ref 40, .ref 41, .ref 42, .int (nI 0), .ref 43, .ref 44]))) := ((frS.rf (S := [(39, 45)])).upr (a := 39) (by simp only [outS, and_true]; omega))
  have hR2 : hcR (va_up M 39 (.inr (2, [.int (nI 0), .ref 40, .ref 41, .ref 42, .int (nI 0), .ref 43, .ref 44]))) z (hod H [] []) ll fr kn := hR.d hf ⟨va_up_self _ _ _, by decide, by decide, ⟨f1, f2, f3, hz_mne e1 (by decide), hz_mne e2 (by decide), hz_mne e3 (by decide), fun j hj => absurd hj (Nat.not_lt_zero j)⟩, f4, f5, hz_mne e4 (by decide), hz_mne e5 (by decide), fun j hj => absurd hj (Nat.not_lt_zero j)⟩
  exact hz_iret (pc := 33) (hz_dec kX11_begin 17 rfl) rfl ⟨rfl, rfl, (hf.mono (fun q (h9 : outS [(8, 63 + 34 * (hoN H).length)] q) => ⟨by have r := h9.1; omega, trivial⟩)), ll, fr, kn, hR2⟩
set_option maxHeartbeats 4000000 in
set_option maxRecDepth 100000 in
theorem c_rbegin {κ : hz_C} {z B : Nat} {M : hz_M} {H : ho_H} (hnn : (hoN H).length ≤ 6) (hT4 : (hoT H).length ≤ 4000) (hR : hmR M z B H)  : hz_Mt κ xX12_begin 0 0 0 [.ref B] z M (hmP M z B (.int (nI ((hoI H).length + (hoU H).length))) (hod H [] [])) := by
  refine hz_ent (lo := [(0, .ref B)]) (by decide) (Nat.le_of_ble_eq_true rfl) rfl ?_
  obtain ⟨hk0_, hE0, ⟨m1, m2, m3⟩, hNd, a5, a6, a7, a8⟩ := id hR
  obtain ⟨⟨fs, hO, hF⟩, -, -, h8, hz⟩ := id hk0_
  obtain ⟨x1, x3, x4, x5, x6, x7, x8⟩ := id m3
  refine hz_aloadn (pc := 0) 0 (hz_dec kX12_begin 0 rfl) rfl ?_
  refine hz_iconst (pc := 1) (v := nI 0) (hz_dec kX12_begin 1 rfl) (by decide) ?_
  refine hz_puti (pc := 2) (hz_dec kX12_begin 2 rfl) fo_X12_302 ft_X12_0 hO h8 (by omega) (by rw [hF.1]; decide) ?_
  have hf1 : mfr B [0, 89] [] M (va_up M B (.inr (12, (List.set fs 0 (.int (nI 0)))))) := (mfr.rf ⟨fs, hO, hF⟩).upO (k := 0) hO hF rfl rfl
  have hR1 : hmR (va_up M B (.inr (12, (List.set fs 0 (.int (nI 0)))))) z B H := hR.m0 hf1 hE0.upO ((fdB_of (va_up_self _ _ _) 89).trans ((List.getElem?_set_ne (by decide)).trans ((fdB_of hO 89).symm.trans x8)))
  generalize (va_up M B (.inr (12, (List.set fs 0 (.int (nI 0)))))) = M1 at *
  obtain ⟨hk1, hE1, ⟨n1, d1, q1⟩, hNd1, a51, a61, a71, a81⟩ := id hR1
  obtain ⟨⟨fs1, hO1, hF1⟩, -, -, -, -⟩ := id hk1
  have g96_1 : fs1[96]? = some (.int (nI ((hoI H).length))) := (fdB_of hO1 96).symm.trans a71.1
  have g100_1 : fs1[100]? = some (.int (nI ((hoU H).length))) := (fdB_of hO1 100).symm.trans a71.2.1
  refine hz_aloadn (pc := 5) 0 (hz_dec kX12_begin 3 rfl) rfl ?_
  refine hz_get (pc := 6) (v := .int (nI ((hoI H).length))) (hz_dec kX12_begin 4 rfl) fo_X12_682 hO1 h8 (by omega) g96_1 ?_
  refine hz_aloadn (pc := 9) 0 (hz_dec kX12_begin 5 rfl) rfl ?_
  refine hz_get (pc := 10) (v := .int (nI ((hoU H).length))) (hz_dec kX12_begin 6 rfl) fo_X12_685 hO1 h8 (by omega) g100_1 ?_
  refine hz_addN (pc := 13) (hz_dec kX12_begin 7 rfl) ?_
  refine hz_istoren (pc := 14) (i := 1) (lo2 := [(1, .int (nI (((hoI H).length) + ((hoU H).length)))), (0, .ref B)]) (hz_dec kX12_begin 8 rfl) rfl (by decide) rfl ?_
  refine hz_aloadn (pc := 15) 1 (hz_dec kX12_begin 9 rfl) rfl ?_
  refine hz_iconst (pc := 16) (v := nI 0) (hz_dec kX12_begin 10 rfl) (by decide) ?_
  refine hz_puti (pc := 17) (hz_dec kX12_begin 11 rfl) fo_X12_682 ft_X12_96 hO1 h8 (by omega) (by rw [hF1.1]; decide) ?_
  refine hz_aloadn (pc := 20) 1 (hz_dec kX12_begin 12 rfl) rfl ?_
  refine hz_iconst (pc := 21) (v := nI 0) (hz_dec kX12_begin 13 rfl) (by decide) ?_
  refine hz_puti (pc := 22) (hz_dec kX12_begin 14 rfl) fo_X12_685 ft_X12_100 (va_up_self _ _ _) h8 (by omega) (by rw [(md_set hF1 rfl).1]; decide) ?_
  refine hz_iloadn (pc := 25) 0 (hz_dec kX12_begin 15 rfl) rfl ?_
  have hf2 : mfr B [96, 100] [81, 82, 83, 84, 85] M1 (va_up (va_up M1 B (.inr (12, (List.set fs1 96 (.int (nI 0)))))) B (.inr (12, (List.set (List.set fs1 96 (.int (nI 0))) 100 (.int (nI 0)))))) := (((mfr.rf (ks := [96, 100]) (os := [81, 82, 83, 84, 85]) hk1.1).upO (k := 96) hO1 hF1 rfl rfl).upO (k := 100) (va_up_self _ _ _) (md_set hF1 rfl) rfl rfl)
  have hE2 : mdE (va_up (va_up M1 B (.inr (12, (List.set fs1 96 (.int (nI 0)))))) B (.inr (12, (List.set (List.set fs1 96 (.int (nI 0))) 100 (.int (nI 0)))))) B := ((hE1.upO).upO)
  have hR2 : hmR (va_up (va_up M1 B (.inr (12, (List.set fs1 96 (.int (nI 0)))))) B (.inr (12, (List.set (List.set fs1 96 (.int (nI 0))) 100 (.int (nI 0)))))) z B (hod H [] []) := hR1.d hf2 hE2 ⟨(fdB_of (va_up_self _ _ _) 96).trans ((List.getElem?_set_ne (by decide)).trans (List.getElem?_set_self (by rw [hF1.1]; decide))), (fdB_of (va_up_self _ _ _) 100).trans (List.getElem?_set_self (by rw [(md_set hF1 rfl).1]; decide)), by decide, by decide, fun j hj => absurd hj (Nat.not_lt_zero j), fun j hj => absurd hj (Nat.not_lt_zero j)⟩
  exact hz_iret (pc := 26) (hz_dec kX12_begin 16 rfl) rfl ⟨rfl, rfl, (hf1.S rfl).tr (hf2.S rfl), hR2⟩
set_option maxHeartbeats 4000000 in
set_option maxRecDepth 100000 in
theorem c_input {κ : hz_C} {z : Nat} {M : hz_M} {H : ho_H} (hz : 63 + 34 * (hoN H).length ≤ z) (hnn : (hoN H).length ≤ 6) (hT4 : (hoT H).length ≤ 4000) {ll : Nat} {fr kn : Int32} (hR : hcR M z H ll fr kn) {iD sd : Int64} {p : Nat} (hp : p < 4) : hz_Mt κ xX11_input 1 0 0 [.ref 8, .long iD, .int (nI p), .long sd] z M (hcP M z H (.int (if (hoI H).length < 4 then nI ((hoI H).length + 1) else -3)) (hod H (if (hoI H).length < 4 then hoI H ++ [(iD, nI p, sd)] else hoI H) (hoU H))) := by
  refine hz_ent (lo := [(0, .ref 8), (1, .long iD), (3, .int (nI p)), (4, .long sd)]) (by decide) (Nat.le_of_ble_eq_true rfl) rfl ?_
  have hH := hR.1
  have hNs := hR.2.1
  obtain ⟨hO, hQ, hD⟩ := id hR.2.2.2.2.1
  obtain ⟨g53, h53⟩ := hR.2.2.2.2.2.1
  have hJ := hR.2.2.2.1
  obtain ⟨g56, h56, hT56⟩ := hR.2.2.2.2.2.2.2.2.2.1
  have hdf := hR.2.2.2.2.2.2.2.2.2.2
  have hck : ck_k M z := hJ.2.2.2.2.2.2.2.1
  have hcs : ck_s M := hJ.2.2.2.2.2.2.2.2.1
  have hz63 : 63 ≤ z := by omega
  refine hz_iloadn (pc := 0) 2 (hz_dec kX11_input 0 rfl) rfl ?_
  refine hz_z_lt (pc := 1) (tgt := 9) (hz_dec kX11_input 1 rfl) (by decide) (by omega) ?_
  refine hz_iloadn (pc := 4) 2 (hz_dec kX11_input 2 rfl) rfl ?_
  refine hz_iconst (pc := 5) (v := nI 4) (hz_dec kX11_input 3 rfl) (by decide) ?_
  refine hz_n_lt (pc := 6) (tgt := 13) (hz_dec kX11_input 4 rfl) (by decide) (by omega) (by omega) (fun h2 => ?_) (fun h2 => ?_)
  · skip
    refine hz_aloadn (pc := 13) 0 (hz_dec kX11_input 7 rfl) rfl ?_
    refine hz_get (pc := 14) (hz_dec kX11_input 8 rfl) fo_X11_53 hH (by omega) (by omega) rfl ?_
    refine hz_lloadn (pc := 17) 1 (hz_dec kX11_input 9 rfl) rfl ?_
    refine hz_iloadn (pc := 18) 2 (hz_dec kX11_input 10 rfl) rfl ?_
    refine hz_lload (pc := 19) 3 (hz_dec kX11_input 11 rfl) rfl ?_
    refine hz_callV (pc := 21) (a := 39) (As := [.long iD, .int (nI p), .long sd]) (st := []) (hz_dec kX11_input 12 rfl) co_X11_158 im_X2_addInput se_X2_addInput rfl hdf.1 (by omega) (by omega) (c_adI hz63 hdf) rfl (by decide) ⟨Nat.le_refl _, Nat.le_refl _⟩ (Nat.le_of_ble_eq_true rfl) rfl (fun r9 z9 M3 hp9 => ?_)
    obtain ⟨rfl, rfl, hf3, hd3⟩ := hp9
    exact hz_iret (pc := 24) (hz_dec kX11_input 13 rfl) rfl ⟨rfl, rfl, (hf3.mono (fun q (h9 : outS [(8, 63 + 34 * (hoN H).length)] q) => ⟨by have r := h9.1; omega, trivial⟩)), ll, fr, kn, hR.d hf3 hd3⟩
  · skip
    exact absurd hp (by omega)
set_option maxHeartbeats 4000000 in
set_option maxRecDepth 100000 in
theorem c_inputB {κ : hz_C} {z : Nat} {M : hz_M} {H : ho_H} (hz : 63 + 34 * (hoN H).length ≤ z) (hnn : (hoN H).length ≤ 6) (hT4 : (hoT H).length ≤ 4000) {ll : Nat} {fr kn : Int32} (hR : hcR M z H ll fr kn) {iD sd : Int64} {p : Int32} (hp : p < 0 ∨ ¬ p < nI 4) : hz_Mt κ xX11_input 1 0 0 [.ref 8, .long iD, .int p, .long sd] z M (hcP M z H (.int (-1)) H) := by
  refine hz_ent (lo := [(0, .ref 8), (1, .long iD), (3, .int p), (4, .long sd)]) (by decide) (Nat.le_of_ble_eq_true rfl) rfl ?_
  have hH := hR.1
  have hNs := hR.2.1
  obtain ⟨hO, hQ, hD⟩ := id hR.2.2.2.2.1
  obtain ⟨g53, h53⟩ := hR.2.2.2.2.2.1
  have hJ := hR.2.2.2.1
  obtain ⟨g56, h56, hT56⟩ := hR.2.2.2.2.2.2.2.2.2.1
  have hdf := hR.2.2.2.2.2.2.2.2.2.2
  have hck : ck_k M z := hJ.2.2.2.2.2.2.2.1
  have hcs : ck_s M := hJ.2.2.2.2.2.2.2.2.1
  have hz63 : 63 ≤ z := by omega
  refine hz_iloadn (pc := 0) 2 (hz_dec kX11_input 0 rfl) rfl ?_
  refine hz_if_lt (pc := 1) (tgt := 9) (hz_dec kX11_input 1 rfl) (by decide) (fun h1 => ?_) (fun h1 => ?_)
  · skip
    refine hz_iconst (pc := 9) (v := (-1)) (hz_dec kX11_input 5 rfl) (by decide) ?_
    refine hz_goto (pc := 10) (tgt := 24) (hz_dec kX11_input 6 rfl) (by decide) ?_
    exact hz_iret (pc := 24) (hz_dec kX11_input 13 rfl) rfl (hcP.no hR _)
  · skip
    refine hz_iloadn (pc := 4) 2 (hz_dec kX11_input 2 rfl) rfl ?_
    refine hz_iconst (pc := 5) (v := nI 4) (hz_dec kX11_input 3 rfl) (by decide) ?_
    refine hz_icmp_lt (pc := 6) (tgt := 13) (hz_dec kX11_input 4 rfl) (by decide) (fun h2 => ?_) (fun h2 => ?_)
    · skip
      exact absurd h2 (hp.resolve_left h1)
    · skip
      refine hz_iconst (pc := 9) (v := (-1)) (hz_dec kX11_input 5 rfl) (by decide) ?_
      refine hz_goto (pc := 10) (tgt := 24) (hz_dec kX11_input 6 rfl) (by decide) ?_
      exact hz_iret (pc := 24) (hz_dec kX11_input 13 rfl) rfl (hcP.no hR _)
set_option maxHeartbeats 4000000 in
set_option maxRecDepth 100000 in
theorem c_rinput {κ : hz_C} {z B : Nat} {M : hz_M} {H : ho_H} (hnn : (hoN H).length ≤ 6) (hT4 : (hoT H).length ≤ 4000) (hR : hmR M z B H) {iD sd : Int64} {p : Nat} (hp : p < 4) : hz_Mt κ xX12_input 1 0 0 [.ref B, .long iD, .int (nI p), .long sd] z M (hmP M z B (.int (if (hoI H).length < 4 then nI ((hoI H).length + 1) else -3)) (hod H (if (hoI H).length < 4 then hoI H ++ [(iD, nI p, sd)] else hoI H) (hoU H))) := by
  refine hz_ent (lo := [(0, .ref B), (1, .long iD), (3, .int (nI p)), (4, .long sd)]) (by decide) (Nat.le_of_ble_eq_true rfl) rfl ?_
  obtain ⟨hk0_, hE0, ⟨m1, m2, m3⟩, hNd, a5, a6, a7, a8⟩ := id hR
  obtain ⟨⟨fs, hO, hF⟩, -, -, h8, hz⟩ := id hk0_
  obtain ⟨x1, x3, x4, x5, x6, x7, x8⟩ := id m3
  refine hz_aloadn (pc := 0) 0 (hz_dec kX12_input 0 rfl) rfl ?_
  refine hz_iconst (pc := 1) (v := nI 0) (hz_dec kX12_input 1 rfl) (by decide) ?_
  refine hz_puti (pc := 2) (hz_dec kX12_input 2 rfl) fo_X12_302 ft_X12_0 hO h8 (by omega) (by rw [hF.1]; decide) ?_
  have hf1 : mfr B [0, 89] [] M (va_up M B (.inr (12, (List.set fs 0 (.int (nI 0)))))) := (mfr.rf ⟨fs, hO, hF⟩).upO (k := 0) hO hF rfl rfl
  have hR1 : hmR (va_up M B (.inr (12, (List.set fs 0 (.int (nI 0)))))) z B H := hR.m0 hf1 hE0.upO ((fdB_of (va_up_self _ _ _) 89).trans ((List.getElem?_set_ne (by decide)).trans ((fdB_of hO 89).symm.trans x8)))
  generalize (va_up M B (.inr (12, (List.set fs 0 (.int (nI 0)))))) = M1 at *
  obtain ⟨hk1, hE1, ⟨n1, d1, q1⟩, hNd1, a51, a61, a71, a81⟩ := id hR1
  obtain ⟨⟨fs1, hO1, hF1⟩, -, -, -, -⟩ := id hk1
  refine hz_iloadn (pc := 5) 2 (hz_dec kX12_input 3 rfl) rfl ?_
  refine hz_z_lt (pc := 6) (tgt := 14) (hz_dec kX12_input 4 rfl) (by decide) (by omega) ?_
  refine hz_iloadn (pc := 9) 2 (hz_dec kX12_input 5 rfl) rfl ?_
  refine hz_iconst (pc := 10) (v := nI 3) (hz_dec kX12_input 6 rfl) (by decide) ?_
  refine hz_n_le (pc := 11) (tgt := 18) (hz_dec kX12_input 7 rfl) (by decide) (by omega) (by omega) (fun h2 => ?_) (fun h2 => ?_)
  · skip
    refine hz_aloadn (pc := 18) 0 (hz_dec kX12_input 10 rfl) rfl ?_
    refine hz_lloadn (pc := 19) 1 (hz_dec kX12_input 11 rfl) rfl ?_
    refine hz_iloadn (pc := 20) 2 (hz_dec kX12_input 12 rfl) rfl ?_
    refine hz_lload (pc := 21) 3 (hz_dec kX12_input 13 rfl) rfl ?_
    refine hz_callV (pc := 23) (a := B) (As := [.long iD, .int (nI p), .long sd]) (st := []) (hz_dec kX12_input 14 rfl) co_X12_688 im_X12_addInput se_X12_addInput rfl hO1 h8 (by omega) (c_madI hk1.1 hE1 h8 hz a71) rfl (by decide) ⟨Nat.le_refl _, Nat.le_refl _⟩ (Nat.le_of_ble_eq_true rfl) rfl (fun r9 z9 M3 hp9 => ?_)
    obtain ⟨rfl, rfl, hf3, hE3, hd3⟩ := hp9
    exact hz_iret (pc := 26) (hz_dec kX12_input 15 rfl) rfl ⟨rfl, rfl, (hf1.S rfl).tr (hf3.S rfl), hR1.d (hf3.mono rfl rfl) hE3 hd3⟩
  · skip
    exact absurd hp (by omega)
set_option maxHeartbeats 4000000 in
set_option maxRecDepth 100000 in
theorem c_rinputB {κ : hz_C} {z B : Nat} {M : hz_M} {H : ho_H} (hnn : (hoN H).length ≤ 6) (hT4 : (hoT H).length ≤ 4000) (hR : hmR M z B H) {iD sd : Int64} {p : Int32} (hp : p < 0 ∨ ¬ p ≤ nI 3) : hz_Mt κ xX12_input 1 0 0 [.ref B, .long iD, .int p, .long sd] z M (hmP M z B (.int (-1)) H) := by
  refine hz_ent (lo := [(0, .ref B), (1, .long iD), (3, .int p), (4, .long sd)]) (by decide) (Nat.le_of_ble_eq_true rfl) rfl ?_
  obtain ⟨hk0_, hE0, ⟨m1, m2, m3⟩, hNd, a5, a6, a7, a8⟩ := id hR
  obtain ⟨⟨fs, hO, hF⟩, -, -, h8, hz⟩ := id hk0_
  obtain ⟨x1, x3, x4, x5, x6, x7, x8⟩ := id m3
  refine hz_aloadn (pc := 0) 0 (hz_dec kX12_input 0 rfl) rfl ?_
  refine hz_iconst (pc := 1) (v := nI 0) (hz_dec kX12_input 1 rfl) (by decide) ?_
  refine hz_puti (pc := 2) (hz_dec kX12_input 2 rfl) fo_X12_302 ft_X12_0 hO h8 (by omega) (by rw [hF.1]; decide) ?_
  have hf1 : mfr B [0, 89] [] M (va_up M B (.inr (12, (List.set fs 0 (.int (nI 0)))))) := (mfr.rf ⟨fs, hO, hF⟩).upO (k := 0) hO hF rfl rfl
  have hR1 : hmR (va_up M B (.inr (12, (List.set fs 0 (.int (nI 0)))))) z B H := hR.m0 hf1 hE0.upO ((fdB_of (va_up_self _ _ _) 89).trans ((List.getElem?_set_ne (by decide)).trans ((fdB_of hO 89).symm.trans x8)))
  generalize (va_up M B (.inr (12, (List.set fs 0 (.int (nI 0)))))) = M1 at *
  obtain ⟨hk1, hE1, ⟨n1, d1, q1⟩, hNd1, a51, a61, a71, a81⟩ := id hR1
  obtain ⟨⟨fs1, hO1, hF1⟩, -, -, -, -⟩ := id hk1
  refine hz_iloadn (pc := 5) 2 (hz_dec kX12_input 3 rfl) rfl ?_
  refine hz_if_lt (pc := 6) (tgt := 14) (hz_dec kX12_input 4 rfl) (by decide) (fun h1 => ?_) (fun h1 => ?_)
  · skip
    refine hz_iconst (pc := 14) (v := (-1)) (hz_dec kX12_input 8 rfl) (by decide) ?_
    refine hz_goto (pc := 15) (tgt := 26) (hz_dec kX12_input 9 rfl) (by decide) ?_
    exact hz_iret (pc := 26) (hz_dec kX12_input 15 rfl) rfl ⟨rfl, rfl, hf1.S rfl, hR1⟩
  · skip
    refine hz_iloadn (pc := 9) 2 (hz_dec kX12_input 5 rfl) rfl ?_
    refine hz_iconst (pc := 10) (v := nI 3) (hz_dec kX12_input 6 rfl) (by decide) ?_
    refine hz_icmp_le (pc := 11) (tgt := 18) (hz_dec kX12_input 7 rfl) (by decide) (fun h2 => ?_) (fun h2 => ?_)
    · skip
      exact absurd h2 (hp.resolve_left h1)
    · skip
      refine hz_iconst (pc := 14) (v := (-1)) (hz_dec kX12_input 8 rfl) (by decide) ?_
      refine hz_goto (pc := 15) (tgt := 26) (hz_dec kX12_input 9 rfl) (by decide) ?_
      exact hz_iret (pc := 26) (hz_dec kX12_input 15 rfl) rfl ⟨rfl, rfl, hf1.S rfl, hR1⟩
set_option maxHeartbeats 4000000 in
set_option maxRecDepth 100000 in
theorem c_output {κ : hz_C} {z : Nat} {M : hz_M} {H : ho_H} (hz : 63 + 34 * (hoN H).length ≤ z) (hnn : (hoN H).length ≤ 6) (hT4 : (hoT H).length ≤ 4000) {ll : Nat} {fr kn : Int32} (hR : hcR M z H ll fr kn) {am ad : Int64} : hz_Mt κ xX11_output 1 0 0 [.ref 8, .long am, .long ad] z M (hcP M z H (.int (if (hoU H).length < 4 then nI ((hoU H).length + 1) else -3)) (hod H (hoI H) (if (hoU H).length < 4 then hoU H ++ [(am, ad)] else hoU H))) := by
  refine hz_ent (lo := [(0, .ref 8), (1, .long am), (3, .long ad)]) (by decide) (Nat.le_of_ble_eq_true rfl) rfl ?_
  have hH := hR.1
  have hNs := hR.2.1
  obtain ⟨hO, hQ, hD⟩ := id hR.2.2.2.2.1
  obtain ⟨g53, h53⟩ := hR.2.2.2.2.2.1
  have hJ := hR.2.2.2.1
  obtain ⟨g56, h56, hT56⟩ := hR.2.2.2.2.2.2.2.2.2.1
  have hdf := hR.2.2.2.2.2.2.2.2.2.2
  have hck : ck_k M z := hJ.2.2.2.2.2.2.2.1
  have hcs : ck_s M := hJ.2.2.2.2.2.2.2.2.1
  have hz63 : 63 ≤ z := by omega
  refine hz_aloadn (pc := 0) 0 (hz_dec kX11_output 0 rfl) rfl ?_
  refine hz_get (pc := 1) (hz_dec kX11_output 1 rfl) fo_X11_53 hH (by omega) (by omega) rfl ?_
  refine hz_lloadn (pc := 4) 1 (hz_dec kX11_output 2 rfl) rfl ?_
  refine hz_lloadn (pc := 5) 2 (hz_dec kX11_output 3 rfl) rfl ?_
  refine hz_callV (pc := 6) (a := 39) (As := [.long am, .long ad]) (st := []) (hz_dec kX11_output 4 rfl) co_X11_185 im_X2_addOutput se_X2_addOutput rfl hdf.1 (by omega) (by omega) (c_adO hz63 hdf) rfl (by decide) ⟨Nat.le_refl _, Nat.le_refl _⟩ (Nat.le_of_ble_eq_true rfl) rfl (fun r9 z9 M3 hp9 => ?_)
  obtain ⟨rfl, rfl, hf3, hd3⟩ := hp9
  exact hz_iret (pc := 9) (hz_dec kX11_output 5 rfl) rfl ⟨rfl, rfl, (hf3.mono (fun q (h9 : outS [(8, 63 + 34 * (hoN H).length)] q) => ⟨by have r := h9.1; omega, trivial⟩)), ll, fr, kn, hR.d hf3 hd3⟩
set_option maxHeartbeats 4000000 in
set_option maxRecDepth 100000 in
theorem c_rout {κ : hz_C} {z B : Nat} {M : hz_M} {H : ho_H} (hnn : (hoN H).length ≤ 6) (hT4 : (hoT H).length ≤ 4000) (hR : hmR M z B H) {am ad : Int64} : hz_Mt κ xX12_output 0 0 0 [.ref B, .long am, .long ad] z M (hmP M z B (.int (if (hoU H).length < 4 then nI ((hoU H).length + 1) else -3)) (hod H (hoI H) (if (hoU H).length < 4 then hoU H ++ [(am, ad)] else hoU H))) := by
  refine hz_ent (lo := [(0, .ref B), (1, .long am), (3, .long ad)]) (by decide) (Nat.le_of_ble_eq_true rfl) rfl ?_
  obtain ⟨hk0_, hE0, ⟨m1, m2, m3⟩, hNd, a5, a6, a7, a8⟩ := id hR
  obtain ⟨⟨fs, hO, hF⟩, -, -, h8, hz⟩ := id hk0_
  obtain ⟨x1, x3, x4, x5, x6, x7, x8⟩ := id m3
  refine hz_aloadn (pc := 0) 0 (hz_dec kX12_output 0 rfl) rfl ?_
  refine hz_iconst (pc := 1) (v := nI 0) (hz_dec kX12_output 1 rfl) (by decide) ?_
  refine hz_puti (pc := 2) (hz_dec kX12_output 2 rfl) fo_X12_302 ft_X12_0 hO h8 (by omega) (by rw [hF.1]; decide) ?_
  have hf1 : mfr B [0, 89] [] M (va_up M B (.inr (12, (List.set fs 0 (.int (nI 0)))))) := (mfr.rf ⟨fs, hO, hF⟩).upO (k := 0) hO hF rfl rfl
  have hR1 : hmR (va_up M B (.inr (12, (List.set fs 0 (.int (nI 0)))))) z B H := hR.m0 hf1 hE0.upO ((fdB_of (va_up_self _ _ _) 89).trans ((List.getElem?_set_ne (by decide)).trans ((fdB_of hO 89).symm.trans x8)))
  generalize (va_up M B (.inr (12, (List.set fs 0 (.int (nI 0)))))) = M1 at *
  obtain ⟨hk1, hE1, ⟨n1, d1, q1⟩, hNd1, a51, a61, a71, a81⟩ := id hR1
  obtain ⟨⟨fs1, hO1, hF1⟩, -, -, -, -⟩ := id hk1
  have g96_1 : fs1[96]? = some (.int (nI ((hoI H).length))) := (fdB_of hO1 96).symm.trans a71.1
  have g100_1 : fs1[100]? = some (.int (nI ((hoU H).length))) := (fdB_of hO1 100).symm.trans a71.2.1
  have hU4 : (hoU H).length ≤ 4 := a71.2.2.2.1
  refine hz_aloadn (pc := 5) 0 (hz_dec kX12_output 3 rfl) rfl ?_
  refine hz_get (pc := 6) (v := .int (nI ((hoU H).length))) (hz_dec kX12_output 4 rfl) fo_X12_685 hO1 h8 (by omega) g100_1 ?_
  refine hz_iconst (pc := 9) (v := nI 4) (hz_dec kX12_output 5 rfl) (by decide) ?_
  refine hz_n_ne (pc := 10) (tgt := 16) (hz_dec kX12_output 6 rfl) (by decide) (by omega) (by omega) (fun h1 => ?_) (fun h1 => ?_)
  · skip
    refine hz_aloadn (pc := 16) 0 (hz_dec kX12_output 9 rfl) rfl ?_
    refine hz_get (pc := 17) (v := .ref (B + 84)) (hz_dec kX12_output 10 rfl) fo_X12_273 hO1 h8 (by omega) (hF1.2 101 (by decide) (by decide)) ?_
    refine hz_aloadn (pc := 20) 0 (hz_dec kX12_output 11 rfl) rfl ?_
    refine hz_get (pc := 21) (v := .int (nI ((hoU H).length))) (hz_dec kX12_output 12 rfl) fo_X12_685 hO1 h8 (by omega) g100_1 ?_
    refine hz_lloadn (pc := 24) 1 (hz_dec kX12_output 13 rfl) rfl ?_
    refine hz_last (pc := 25) (j := (hoU H).length) (hz_dec kX12_output 14 rfl) hE1.a84 (by omega) (by omega) rfl (by omega) (by decide) ?_
    refine hz_aloadn (pc := 26) 0 (hz_dec kX12_output 15 rfl) rfl ?_
    refine hz_get (pc := 27) (v := .ref (B + 85)) (hz_dec kX12_output 16 rfl) fo_X12_276 (hz_mne hO1 (by omega)) h8 (by omega) (hF1.2 102 (by decide) (by decide)) ?_
    refine hz_aloadn (pc := 30) 0 (hz_dec kX12_output 17 rfl) rfl ?_
    refine hz_get (pc := 31) (v := .int (nI ((hoU H).length))) (hz_dec kX12_output 18 rfl) fo_X12_685 (hz_mne hO1 (by omega)) h8 (by omega) g100_1 ?_
    refine hz_lloadn (pc := 34) 2 (hz_dec kX12_output 19 rfl) rfl ?_
    refine hz_last (pc := 35) (j := (hoU H).length) (hz_dec kX12_output 20 rfl) (hz_mne hE1.a85 (by omega)) (by omega) (by omega) rfl (by omega) (by decide) ?_
    refine hz_aloadn (pc := 36) 0 (hz_dec kX12_output 21 rfl) rfl ?_
    refine hz_dup (pc := 37) (hz_dec kX12_output 22 rfl) rfl ?_
    refine hz_get (pc := 38) (v := .int (nI ((hoU H).length))) (hz_dec kX12_output 23 rfl) fo_X12_685 (hz_mne (hz_mne hO1 (by omega)) (by omega)) h8 (by omega) g100_1 ?_
    refine hz_iconst (pc := 41) (v := nI 1) (hz_dec kX12_output 24 rfl) (by decide) ?_
    refine hz_addN (pc := 42) (hz_dec kX12_output 25 rfl) ?_
    refine hz_puti (pc := 43) (hz_dec kX12_output 26 rfl) fo_X12_685 ft_X12_100 (hz_mne (hz_mne hO1 (by omega)) (by omega)) h8 (by omega) (by rw [hF1.1]; decide) ?_
    refine hz_aloadn (pc := 46) 0 (hz_dec kX12_output 27 rfl) rfl ?_
    refine hz_get (pc := 47) (v := .int (nI (((hoU H).length) + 1))) (hz_dec kX12_output 28 rfl) fo_X12_685 (va_up_self _ _ _) h8 (by omega) (List.getElem?_set_self (by rw [hF1.1]; decide)) ?_
    have hlt : (hoU H).length < 4 := by omega
    have hf2 : mfr B [96, 100] [81, 82, 83, 84, 85] M1 (va_up (va_up (va_up M1 (B + 84) (.inl (2, 4, .inr (.inl (vp_updL (fL M1 B 84) ((hoU H).length) (am)))))) (B + 85) (.inl (2, 4, .inr (.inl (vp_updL (fL M1 B 85) ((hoU H).length) (ad)))))) B (.inr (12, (List.set fs1 100 (.int (nI (((hoU H).length) + 1))))))) := ((((mfr.rf (ks := [96, 100]) (os := [81, 82, 83, 84, 85]) hk1.1).upA (o := 84) rfl (by decide)).upA (o := 85) rfl (by decide)).upO (k := 100) (hz_mne (hz_mne hO1 (by omega)) (by omega)) hF1 rfl rfl)
    have hE2 : mdE (va_up (va_up (va_up M1 (B + 84) (.inl (2, 4, .inr (.inl (vp_updL (fL M1 B 84) ((hoU H).length) (am)))))) (B + 85) (.inl (2, 4, .inr (.inl (vp_updL (fL M1 B 85) ((hoU H).length) (ad)))))) B (.inr (12, (List.set fs1 100 (.int (nI (((hoU H).length) + 1))))))) B := (((hE1.upL (k := 84) (n := 4) (by decide)).upL (k := 85) (n := 4) (by decide)).upO)
    have e84 : fL (va_up (va_up (va_up M1 (B + 84) (.inl (2, 4, .inr (.inl (vp_updL (fL M1 B 84) ((hoU H).length) (am)))))) (B + 85) (.inl (2, 4, .inr (.inl (vp_updL (fL M1 B 85) ((hoU H).length) (ad)))))) B (.inr (12, (List.set fs1 100 (.int (nI (((hoU H).length) + 1))))))) B 84 = vp_updL (fL M1 B 84) (hoU H).length am := fL_of (hz_mne (hz_mne (va_up_self _ _ _) (by omega)) (by omega))
    have e85 : fL (va_up (va_up (va_up M1 (B + 84) (.inl (2, 4, .inr (.inl (vp_updL (fL M1 B 84) ((hoU H).length) (am)))))) (B + 85) (.inl (2, 4, .inr (.inl (vp_updL (fL M1 B 85) ((hoU H).length) (ad)))))) B (.inr (12, (List.set fs1 100 (.int (nI (((hoU H).length) + 1))))))) B 85 = vp_updL (fL M1 B 85) (hoU H).length ad := fL_of (hz_mne (va_up_self _ _ _) (by omega))
    have e81 : fL (va_up (va_up (va_up M1 (B + 84) (.inl (2, 4, .inr (.inl (vp_updL (fL M1 B 84) ((hoU H).length) (am)))))) (B + 85) (.inl (2, 4, .inr (.inl (vp_updL (fL M1 B 85) ((hoU H).length) (ad)))))) B (.inr (12, (List.set fs1 100 (.int (nI (((hoU H).length) + 1))))))) B 81 = fL M1 B 81 := fL_c ((va_up_ne _ _ (by omega)).trans ((va_up_ne _ _ (by omega)).trans (va_up_ne _ _ (by omega))))
    have e82 : fA (va_up (va_up (va_up M1 (B + 84) (.inl (2, 4, .inr (.inl (vp_updL (fL M1 B 84) ((hoU H).length) (am)))))) (B + 85) (.inl (2, 4, .inr (.inl (vp_updL (fL M1 B 85) ((hoU H).length) (ad)))))) B (.inr (12, (List.set fs1 100 (.int (nI (((hoU H).length) + 1))))))) B 82 = fA M1 B 82 := fA_c ((va_up_ne _ _ (by omega)).trans ((va_up_ne _ _ (by omega)).trans (va_up_ne _ _ (by omega))))
    have e83 : fL (va_up (va_up (va_up M1 (B + 84) (.inl (2, 4, .inr (.inl (vp_updL (fL M1 B 84) ((hoU H).length) (am)))))) (B + 85) (.inl (2, 4, .inr (.inl (vp_updL (fL M1 B 85) ((hoU H).length) (ad)))))) B (.inr (12, (List.set fs1 100 (.int (nI (((hoU H).length) + 1))))))) B 83 = fL M1 B 83 := fL_c ((va_up_ne _ _ (by omega)).trans ((va_up_ne _ _ (by omega)).trans (va_up_ne _ _ (by omega))))
    have hR2 : hmR (va_up (va_up (va_up M1 (B + 84) (.inl (2, 4, .inr (.inl (vp_updL (fL M1 B 84) ((hoU H).length) (am)))))) (B + 85) (.inl (2, 4, .inr (.inl (vp_updL (fL M1 B 85) ((hoU H).length) (ad)))))) B (.inr (12, (List.set fs1 100 (.int (nI (((hoU H).length) + 1))))))) z B (hod H (hoI H) (hoU H ++ [(am, ad)])) := hR1.d hf2 hE2 ⟨(fdB_of (va_up_self _ _ _) 96).trans ((List.getElem?_set_ne (by decide)).trans g96_1), by rw [List.length_append]; exact (fdB_of (va_up_self _ _ _) 100).trans (List.getElem?_set_self (by rw [hF1.1]; decide)), a71.2.2.1, by rw [List.length_append]; exact hlt, by rw [e81, e82, e83]; exact a71.2.2.2.2.1, by rw [e84, e85]; exact doX_app a71.2.2.2.2.2⟩
    exact hz_iret (pc := 50) (hz_dec kX12_output 29 rfl) rfl ⟨by rw [if_pos hlt], rfl, (hf1.S rfl).tr (hf2.S rfl), by rw [if_pos hlt]; exact hR2⟩
  · skip
    have hlt : ¬ (hoU H).length < 4 := by omega
    refine hz_bipush (pc := 13) (v := (-3)) (hz_dec kX12_output 7 rfl) (by decide) ?_
    exact hz_iret (pc := 15) (hz_dec kX12_output 8 rfl) rfl ⟨by rw [if_neg hlt], rfl, hf1.S rfl, by rw [if_neg hlt]; exact hR1⟩
set_option maxHeartbeats 4000000 in
set_option maxRecDepth 100000 in
theorem c_pay {κ : hz_C} {z : Nat} {M : hz_M} {H : ho_H} (hz : 63 + 34 * (hoN H).length ≤ z) (hnn : (hoN H).length ≤ 6) (hT4 : (hoT H).length ≤ 4000) {ll : Nat} {fr kn : Int32} (hR : hcR M z H ll fr kn) {am sd : Int64} : hz_Mt κ xX11_pay 3 0 0 [.ref 8, .long am, .long sd] z M (hcP M z H (.int (if (hoU H).length < 4 then nI ((hoU H).length + 1) else -3)) (hod H (hoI H) (if (hoU H).length < 4 then hoU H ++ [(am, ky_a sd)] else hoU H))) := by
  refine hz_ent (lo := [(0, .ref 8), (1, .long am), (3, .long sd)]) (by decide) (Nat.le_of_ble_eq_true rfl) rfl ?_
  have hH := hR.1
  have hNs := hR.2.1
  obtain ⟨hO, hQ, hD⟩ := id hR.2.2.2.2.1
  obtain ⟨g53, h53⟩ := hR.2.2.2.2.2.1
  have hJ := hR.2.2.2.1
  obtain ⟨g56, h56, hT56⟩ := hR.2.2.2.2.2.2.2.2.2.1
  have hdf := hR.2.2.2.2.2.2.2.2.2.2
  have hck : ck_k M z := hJ.2.2.2.2.2.2.2.1
  have hcs : ck_s M := hJ.2.2.2.2.2.2.2.2.1
  have hz63 : 63 ≤ z := by omega
  refine hz_aloadn (pc := 0) 0 (hz_dec kX11_pay 0 rfl) rfl ?_
  refine hz_get (pc := 1) (hz_dec kX11_pay 1 rfl) fo_X11_53 hH (by omega) (by omega) rfl ?_
  refine hz_lloadn (pc := 4) 1 (hz_dec kX11_pay 2 rfl) rfl ?_
  refine hz_aloadn (pc := 5) 0 (hz_dec kX11_pay 3 rfl) rfl ?_
  refine hz_get (pc := 6) (hz_dec kX11_pay 4 rfl) fo_X11_30 hH (by omega) (by omega) rfl ?_
  refine hz_lloadn (pc := 9) 2 (hz_dec kX11_pay 5 rfl) rfl ?_
  refine hz_callV (pc := 10) (a := 13) (As := [.long sd]) (st := [.long am, .ref 39]) (hz_dec kX11_pay 6 rfl) co_X11_148 im_X4_addressOf se_X4_addressOf rfl hck.2.1 (by omega) (by omega) (c_cadO hck hcs (sd := sd)) rfl (by decide) ⟨Nat.le_refl _, Nat.le_refl _⟩ (Nat.le_of_ble_eq_true rfl) rfl (fun r9 z9 M2 hp9 => ?_)
  obtain ⟨rfl, rfl, hf2, hs2, hv2⟩ := hp9
  have hfS2 : frS [(9, 39)] M M2 := hf2.S0 rfl
  have hJ2 : juS M2 z := hJ.k hf2 rfl rfl rfl hs2
  have hR2 : hcR M2 z H ll fr kn := hR.j hfS2 hJ2
  have hdf2 := hR2.2.2.2.2.2.2.2.2.2.2
  refine hz_callV (pc := 13) (a := 39) (As := [.long am, .long (ky_a sd)]) (st := []) (hz_dec kX11_pay 7 rfl) co_X11_185 im_X2_addOutput se_X2_addOutput rfl hdf2.1 (by omega) (by omega) (c_adO hz63 hdf2) rfl (by decide) ⟨Nat.le_refl _, Nat.le_refl _⟩ (Nat.le_of_ble_eq_true rfl) rfl (fun r9 z9 M3 hp9 => ?_)
  obtain ⟨rfl, rfl, hf3, hd3⟩ := hp9
  exact hz_iret (pc := 16) (hz_dec kX11_pay 8 rfl) rfl ⟨rfl, rfl, (hfS2.mono (fun q (h9 : outS [(8, 63 + 34 * (hoN H).length)] q) => ⟨by have r := h9.1; omega, trivial⟩)).tr (hf3.mono (fun q (h9 : outS [(8, 63 + 34 * (hoN H).length)] q) => ⟨by have r := h9.1; omega, trivial⟩)), ll, fr, kn, hR2.d hf3 hd3⟩
set_option maxHeartbeats 4000000 in
set_option maxRecDepth 100000 in
theorem c_rpay {κ : hz_C} {z B : Nat} {M : hz_M} {H : ho_H} (hnn : (hoN H).length ≤ 6) (hT4 : (hoT H).length ≤ 4000) (hR : hmR M z B H) {am sd : Int64} : hz_Mt κ xX12_pay 7 0 0 [.ref B, .long am, .long sd] z M (hmP M z B (.int (if (hoU H).length < 4 then nI ((hoU H).length + 1) else -3)) (hod H (hoI H) (if (hoU H).length < 4 then hoU H ++ [(am, ky_a sd)] else hoU H))) := by
  refine hz_ent (lo := [(0, .ref B), (1, .long am), (3, .long sd)]) (by decide) (Nat.le_of_ble_eq_true rfl) rfl ?_
  obtain ⟨hk0_, hE0, ⟨m1, m2, m3⟩, hNd, a5, a6, a7, a8⟩ := id hR
  obtain ⟨⟨fs, hO, hF⟩, -, -, h8, hz⟩ := id hk0_
  obtain ⟨x1, x3, x4, x5, x6, x7, x8⟩ := id m3
  refine hz_aloadn (pc := 0) 0 (hz_dec kX12_pay 0 rfl) rfl ?_
  refine hz_lloadn (pc := 1) 1 (hz_dec kX12_pay 1 rfl) rfl ?_
  refine hz_aloadn (pc := 2) 0 (hz_dec kX12_pay 2 rfl) rfl ?_
  refine hz_lloadn (pc := 3) 2 (hz_dec kX12_pay 3 rfl) rfl ?_
  have hk : md_k B M z := hk0_
  refine hz_callV (pc := 4) (a := B) (As := [.long sd]) (st := [.long am, .ref B]) (hz_dec kX12_pay 4 rfl) co_X12_430 im_X12_addressOf se_X12_addressOf rfl hO h8 (by omega) (c_adOf hk hE0.s (v := sd)) rfl (by decide) ⟨Nat.le_refl _, Nat.le_refl _⟩ (Nat.le_of_ble_eq_true rfl) rfl (fun r9 z9 M2 hp9 => ?_)
  obtain ⟨rfl, rfl, hf2, hs2, -⟩ := hp9
  have hm2 : mfr B [] [3, 4, 5, 6, 8] M M2 := mfr.ofl hk.1 hf2 rfl
  have hR2 : hmR M2 z B H := hR.sc hm2 (hE0.hs hm2 hs2 rfl) rfl rfl rfl rfl rfl rfl rfl rfl rfl rfl rfl rfl rfl rfl rfl rfl rfl rfl rfl
  obtain ⟨hk2, hE2, ⟨n2, d2, q2⟩, hNd2, a52, a62, a72, a82⟩ := id hR2
  obtain ⟨⟨fs2, hO2, hF2⟩, -, -, -, -⟩ := id hk2
  refine hz_callV (pc := 7) (a := B) (As := [.long am, .long (ky_a sd)]) (st := []) (hz_dec kX12_pay 5 rfl) co_X12_695 im_X12_output se_X12_output rfl hO2 h8 (by omega) (c_rout hnn hT4 hR2) rfl (by decide) ⟨Nat.le_refl _, Nat.le_refl _⟩ (Nat.le_of_ble_eq_true rfl) rfl (fun r9 z9 M3 hp9 => ?_)
  obtain ⟨rfl, rfl, hf3, hR3⟩ := hp9
  exact hz_iret (pc := 10) (hz_dec kX12_pay 6 rfl) rfl ⟨rfl, rfl, (hm2.S rfl).tr hf3, hR3⟩
set_option maxHeartbeats 4000000 in
set_option maxRecDepth 100000 in
theorem c_addr {κ : hz_C} {z : Nat} {M : hz_M} {H : ho_H} (hz : 63 + 34 * (hoN H).length ≤ z) (hnn : (hoN H).length ≤ 6) (hT4 : (hoT H).length ≤ 4000) {ll : Nat} {fr kn : Int32} (hR : hcR M z H ll fr kn) {sd : Int64} : hz_Mt κ xX11_address 3 0 0 [.ref 8, .long sd] z M (hcP M z H (.long (ky_a sd)) H) := by
  refine hz_ent (lo := [(0, .ref 8), (1, .long sd)]) (by decide) (Nat.le_of_ble_eq_true rfl) rfl ?_
  have hH := hR.1
  have hNs := hR.2.1
  obtain ⟨hO, hQ, hD⟩ := id hR.2.2.2.2.1
  obtain ⟨g53, h53⟩ := hR.2.2.2.2.2.1
  have hJ := hR.2.2.2.1
  obtain ⟨g56, h56, hT56⟩ := hR.2.2.2.2.2.2.2.2.2.1
  have hdf := hR.2.2.2.2.2.2.2.2.2.2
  have hck : ck_k M z := hJ.2.2.2.2.2.2.2.1
  have hcs : ck_s M := hJ.2.2.2.2.2.2.2.2.1
  have hz63 : 63 ≤ z := by omega
  refine hz_aloadn (pc := 0) 0 (hz_dec kX11_address 0 rfl) rfl ?_
  refine hz_get (pc := 1) (hz_dec kX11_address 1 rfl) fo_X11_30 hH (by omega) (by omega) rfl ?_
  refine hz_lloadn (pc := 4) 1 (hz_dec kX11_address 2 rfl) rfl ?_
  refine hz_callV (pc := 5) (a := 13) (As := [.long sd]) (st := []) (hz_dec kX11_address 3 rfl) co_X11_148 im_X4_addressOf se_X4_addressOf rfl hck.2.1 (by omega) (by omega) (c_cadO hck hcs (sd := sd)) rfl (by decide) ⟨Nat.le_refl _, Nat.le_refl _⟩ (Nat.le_of_ble_eq_true rfl) rfl (fun r9 z9 M2 hp9 => ?_)
  obtain ⟨rfl, rfl, hf2, hs2, hv2⟩ := hp9
  have hfS2 : frS [(9, 39)] M M2 := hf2.S0 rfl
  have hJ2 : juS M2 z := hJ.k hf2 rfl rfl rfl hs2
  have hR2 : hcR M2 z H ll fr kn := hR.j hfS2 hJ2
  exact hz_lret (pc := 8) (hz_dec kX11_address 4 rfl) rfl ⟨rfl, rfl, (hfS2.mono (fun q (h9 : outS [(8, 63 + 34 * (hoN H).length)] q) => ⟨by have r := h9.1; omega, trivial⟩)), ll, fr, kn, hR2⟩
set_option maxHeartbeats 4000000 in
set_option maxRecDepth 100000 in
theorem c_raddr {κ : hz_C} {z B : Nat} {M : hz_M} {H : ho_H} (hnn : (hoN H).length ≤ 6) (hT4 : (hoT H).length ≤ 4000) (hR : hmR M z B H) {sd : Int64} : hz_Mt κ xX12_address 7 0 0 [.ref B, .long sd] z M (hmP M z B (.long (ky_a sd)) H) := by
  refine hz_ent (lo := [(0, .ref B), (1, .long sd)]) (by decide) (Nat.le_of_ble_eq_true rfl) rfl ?_
  obtain ⟨hk0_, hE0, ⟨m1, m2, m3⟩, hNd, a5, a6, a7, a8⟩ := id hR
  obtain ⟨⟨fs, hO, hF⟩, -, -, h8, hz⟩ := id hk0_
  obtain ⟨x1, x3, x4, x5, x6, x7, x8⟩ := id m3
  refine hz_aloadn (pc := 0) 0 (hz_dec kX12_address 0 rfl) rfl ?_
  refine hz_iconst (pc := 1) (v := nI 0) (hz_dec kX12_address 1 rfl) (by decide) ?_
  refine hz_puti (pc := 2) (hz_dec kX12_address 2 rfl) fo_X12_302 ft_X12_0 hO h8 (by omega) (by rw [hF.1]; decide) ?_
  have hf1 : mfr B [0, 89] [] M (va_up M B (.inr (12, (List.set fs 0 (.int (nI 0)))))) := (mfr.rf ⟨fs, hO, hF⟩).upO (k := 0) hO hF rfl rfl
  have hR1 : hmR (va_up M B (.inr (12, (List.set fs 0 (.int (nI 0)))))) z B H := hR.m0 hf1 hE0.upO ((fdB_of (va_up_self _ _ _) 89).trans ((List.getElem?_set_ne (by decide)).trans ((fdB_of hO 89).symm.trans x8)))
  generalize (va_up M B (.inr (12, (List.set fs 0 (.int (nI 0)))))) = M1 at *
  obtain ⟨hk1, hE1, ⟨n1, d1, q1⟩, hNd1, a51, a61, a71, a81⟩ := id hR1
  obtain ⟨⟨fs1, hO1, hF1⟩, -, -, -, -⟩ := id hk1
  refine hz_aloadn (pc := 5) 0 (hz_dec kX12_address 3 rfl) rfl ?_
  refine hz_lloadn (pc := 6) 1 (hz_dec kX12_address 4 rfl) rfl ?_
  refine hz_callV (pc := 7) (a := B) (As := [.long sd]) (st := []) (hz_dec kX12_address 5 rfl) co_X12_430 im_X12_addressOf se_X12_addressOf rfl hO1 h8 (by omega) (c_adOf hk1 hE1.s (v := sd)) rfl (by decide) ⟨Nat.le_refl _, Nat.le_refl _⟩ (Nat.le_of_ble_eq_true rfl) rfl (fun r9 z9 M2 hp9 => ?_)
  obtain ⟨rfl, rfl, hf2, hs2, hv2⟩ := hp9
  have hm2 : mfr B [] [3, 4, 5, 6, 8] M1 M2 := mfr.ofl hk1.1 hf2 rfl
  have hR2 : hmR M2 z B H := hR1.sc hm2 (hE1.hs hm2 hs2 rfl) rfl rfl rfl rfl rfl rfl rfl rfl rfl rfl rfl rfl rfl rfl rfl rfl rfl rfl rfl
  exact hz_lret (pc := 10) (hz_dec kX12_address 6 rfl) rfl ⟨rfl, rfl, (hf1.S rfl).tr (hm2.S rfl), hR2⟩
set_option maxHeartbeats 4000000 in
set_option maxRecDepth 100000 in
theorem c_part {κ : hz_C} {z : Nat} {M : hz_M} {H : ho_H} (hz : 63 + 34 * (hoN H).length ≤ z) (hnn : (hoN H).length ≤ 6) (hT4 : (hoT H).length ≤ 4000) {ll : Nat} {fr kn : Int32} (hR : hcR M z H ll fr kn) {sd : Int64} {i n : Nat} (hi : i ≤ 7) (hn : n ≤ 15) : hz_Mt κ xX11_part 3 0 0 [.ref 8, .long sd, .int (nI i), .int (nI n)] z M (hcP M z H (.long (ky_ss (ky_b sd i) i 0 n)) H) := by
  refine hz_ent (lo := [(0, .ref 8), (1, .long sd), (3, .int (nI i)), (4, .int (nI n))]) (by decide) (Nat.le_of_ble_eq_true rfl) rfl ?_
  have hH := hR.1
  have hNs := hR.2.1
  obtain ⟨hO, hQ, hD⟩ := id hR.2.2.2.2.1
  obtain ⟨g53, h53⟩ := hR.2.2.2.2.2.1
  have hJ := hR.2.2.2.1
  obtain ⟨g56, h56, hT56⟩ := hR.2.2.2.2.2.2.2.2.2.1
  have hdf := hR.2.2.2.2.2.2.2.2.2.2
  have hck : ck_k M z := hJ.2.2.2.2.2.2.2.1
  have hcs : ck_s M := hJ.2.2.2.2.2.2.2.2.1
  have hz63 : 63 ≤ z := by omega
  refine hz_iloadn (pc := 0) 2 (hz_dec kX11_part 0 rfl) rfl ?_
  refine hz_z_lt (pc := 1) (tgt := 22) (hz_dec kX11_part 1 rfl) (by decide) (by omega) ?_
  refine hz_iloadn (pc := 4) 2 (hz_dec kX11_part 2 rfl) rfl ?_
  refine hz_bipush (pc := 5) (v := nI 7) (hz_dec kX11_part 3 rfl) (by decide) ?_
  refine hz_n_gt (pc := 7) (tgt := 22) (hz_dec kX11_part 4 rfl) (by decide) (by omega) (by omega) (fun h2 => ?_) (fun h2 => ?_)
  · skip
    exact absurd hi (by omega)
  · skip
    refine hz_iload (pc := 10) 3 (hz_dec kX11_part 5 rfl) rfl ?_
    refine hz_z_lt (pc := 12) (tgt := 22) (hz_dec kX11_part 6 rfl) (by decide) (by omega) ?_
    refine hz_iload (pc := 15) 3 (hz_dec kX11_part 7 rfl) rfl ?_
    refine hz_bipush (pc := 17) (v := nI 15) (hz_dec kX11_part 8 rfl) (by decide) ?_
    refine hz_n_le (pc := 19) (tgt := 26) (hz_dec kX11_part 9 rfl) (by decide) (by omega) (by omega) (fun h4 => ?_) (fun h4 => ?_)
    · skip
      refine hz_aloadn (pc := 26) 0 (hz_dec kX11_part 12 rfl) rfl ?_
      refine hz_get (pc := 27) (hz_dec kX11_part 13 rfl) fo_X11_30 hH (by omega) (by omega) rfl ?_
      refine hz_lloadn (pc := 30) 1 (hz_dec kX11_part 14 rfl) rfl ?_
      refine hz_iloadn (pc := 31) 2 (hz_dec kX11_part 15 rfl) rfl ?_
      refine hz_iload (pc := 32) 3 (hz_dec kX11_part 16 rfl) rfl ?_
      refine hz_callV (pc := 34) (a := 13) (As := [.long sd, .int (nI i), .int (nI n)]) (st := []) (hz_dec kX11_part 17 rfl) co_X11_144 im_X4_partBehind se_X4_partBehind rfl hck.2.1 (by omega) (by omega) (c_partB hck hcs (sd := sd) (i := i) (n := n) (by omega) hn) rfl (by decide) ⟨Nat.le_refl _, Nat.le_refl _⟩ (Nat.le_of_ble_eq_true rfl) rfl (fun r9 z9 M2 hp9 => ?_)
      obtain ⟨rfl, rfl, hf2, hs2, hv2⟩ := hp9
      have hfS2 : frS [(9, 39)] M M2 := hf2.S0 rfl
      have hJ2 : juS M2 z := hJ.k hf2 rfl rfl rfl hs2
      have hR2 : hcR M2 z H ll fr kn := hR.j hfS2 hJ2
      exact hz_lret (pc := 37) (hz_dec kX11_part 18 rfl) rfl ⟨rfl, rfl, (hfS2.mono (fun q (h9 : outS [(8, 63 + 34 * (hoN H).length)] q) => ⟨by have r := h9.1; omega, trivial⟩)), ll, fr, kn, hR2⟩
    · skip
      exact absurd hn (by omega)
set_option maxHeartbeats 4000000 in
set_option maxRecDepth 100000 in
theorem c_partBd {κ : hz_C} {z : Nat} {M : hz_M} {H : ho_H} (hz : 63 + 34 * (hoN H).length ≤ z) (hnn : (hoN H).length ≤ 6) (hT4 : (hoT H).length ≤ 4000) {ll : Nat} {fr kn : Int32} (hR : hcR M z H ll fr kn) {sd : Int64} {i n : Int32} (hb : i < 0 ∨ nI 7 < i ∨ n < 0 ∨ ¬ n ≤ nI 15) : hz_Mt κ xX11_part 3 0 0 [.ref 8, .long sd, .int i, .int n] z M (hcP M z H (.long 0) H) := by
  refine hz_ent (lo := [(0, .ref 8), (1, .long sd), (3, .int i), (4, .int n)]) (by decide) (Nat.le_of_ble_eq_true rfl) rfl ?_
  have hH := hR.1
  have hNs := hR.2.1
  obtain ⟨hO, hQ, hD⟩ := id hR.2.2.2.2.1
  obtain ⟨g53, h53⟩ := hR.2.2.2.2.2.1
  have hJ := hR.2.2.2.1
  obtain ⟨g56, h56, hT56⟩ := hR.2.2.2.2.2.2.2.2.2.1
  have hdf := hR.2.2.2.2.2.2.2.2.2.2
  have hck : ck_k M z := hJ.2.2.2.2.2.2.2.1
  have hcs : ck_s M := hJ.2.2.2.2.2.2.2.2.1
  have hz63 : 63 ≤ z := by omega
  refine hz_iloadn (pc := 0) 2 (hz_dec kX11_part 0 rfl) rfl ?_
  refine hz_if_lt (pc := 1) (tgt := 22) (hz_dec kX11_part 1 rfl) (by decide) (fun h1 => ?_) (fun h1 => ?_)
  · skip
    refine hz_lconst (pc := 22) (v := 0) (hz_dec kX11_part 10 rfl) (by decide) ?_
    refine hz_goto (pc := 23) (tgt := 37) (hz_dec kX11_part 11 rfl) (by decide) ?_
    exact hz_lret (pc := 37) (hz_dec kX11_part 18 rfl) rfl (hcP.no hR _)
  · skip
    refine hz_iloadn (pc := 4) 2 (hz_dec kX11_part 2 rfl) rfl ?_
    refine hz_bipush (pc := 5) (v := nI 7) (hz_dec kX11_part 3 rfl) (by decide) ?_
    refine hz_icmp_gt (pc := 7) (tgt := 22) (hz_dec kX11_part 4 rfl) (by decide) (fun h2 => ?_) (fun h2 => ?_)
    · skip
      refine hz_lconst (pc := 22) (v := 0) (hz_dec kX11_part 10 rfl) (by decide) ?_
      refine hz_goto (pc := 23) (tgt := 37) (hz_dec kX11_part 11 rfl) (by decide) ?_
      exact hz_lret (pc := 37) (hz_dec kX11_part 18 rfl) rfl (hcP.no hR _)
    · skip
      refine hz_iload (pc := 10) 3 (hz_dec kX11_part 5 rfl) rfl ?_
      refine hz_if_lt (pc := 12) (tgt := 22) (hz_dec kX11_part 6 rfl) (by decide) (fun h3 => ?_) (fun h3 => ?_)
      · skip
        refine hz_lconst (pc := 22) (v := 0) (hz_dec kX11_part 10 rfl) (by decide) ?_
        refine hz_goto (pc := 23) (tgt := 37) (hz_dec kX11_part 11 rfl) (by decide) ?_
        exact hz_lret (pc := 37) (hz_dec kX11_part 18 rfl) rfl (hcP.no hR _)
      · skip
        refine hz_iload (pc := 15) 3 (hz_dec kX11_part 7 rfl) rfl ?_
        refine hz_bipush (pc := 17) (v := nI 15) (hz_dec kX11_part 8 rfl) (by decide) ?_
        refine hz_icmp_le (pc := 19) (tgt := 26) (hz_dec kX11_part 9 rfl) (by decide) (fun h4 => ?_) (fun h4 => ?_)
        · skip
          exact absurd h4 (((hb.resolve_left h1).resolve_left h2).resolve_left h3)
        · skip
          refine hz_lconst (pc := 22) (v := 0) (hz_dec kX11_part 10 rfl) (by decide) ?_
          refine hz_goto (pc := 23) (tgt := 37) (hz_dec kX11_part 11 rfl) (by decide) ?_
          exact hz_lret (pc := 37) (hz_dec kX11_part 18 rfl) rfl (hcP.no hR _)
set_option maxHeartbeats 4000000 in
set_option maxRecDepth 100000 in
theorem c_rpart {κ : hz_C} {z B : Nat} {M : hz_M} {H : ho_H} (hnn : (hoN H).length ≤ 6) (hT4 : (hoT H).length ≤ 4000) (hR : hmR M z B H) {sd : Int64} {i n : Nat} (hi : i ≤ 7) (hn : n ≤ 15) : hz_Mt κ xX12_part 6 0 0 [.ref B, .long sd, .int (nI i), .int (nI n)] z M (hmP M z B (.long (ky_ss (ky_b sd i) i 0 n)) H) := by
  refine hz_ent (lo := [(0, .ref B), (1, .long sd), (3, .int (nI i)), (4, .int (nI n))]) (by decide) (Nat.le_of_ble_eq_true rfl) rfl ?_
  obtain ⟨hk0_, hE0, ⟨m1, m2, m3⟩, hNd, a5, a6, a7, a8⟩ := id hR
  obtain ⟨⟨fs, hO, hF⟩, -, -, h8, hz⟩ := id hk0_
  obtain ⟨x1, x3, x4, x5, x6, x7, x8⟩ := id m3
  refine hz_aloadn (pc := 0) 0 (hz_dec kX12_part 0 rfl) rfl ?_
  refine hz_iconst (pc := 1) (v := nI 0) (hz_dec kX12_part 1 rfl) (by decide) ?_
  refine hz_puti (pc := 2) (hz_dec kX12_part 2 rfl) fo_X12_302 ft_X12_0 hO h8 (by omega) (by rw [hF.1]; decide) ?_
  have hf1 : mfr B [0, 89] [] M (va_up M B (.inr (12, (List.set fs 0 (.int (nI 0)))))) := (mfr.rf ⟨fs, hO, hF⟩).upO (k := 0) hO hF rfl rfl
  have hR1 : hmR (va_up M B (.inr (12, (List.set fs 0 (.int (nI 0)))))) z B H := hR.m0 hf1 hE0.upO ((fdB_of (va_up_self _ _ _) 89).trans ((List.getElem?_set_ne (by decide)).trans ((fdB_of hO 89).symm.trans x8)))
  generalize (va_up M B (.inr (12, (List.set fs 0 (.int (nI 0)))))) = M1 at *
  obtain ⟨hk1, hE1, ⟨n1, d1, q1⟩, hNd1, a51, a61, a71, a81⟩ := id hR1
  obtain ⟨⟨fs1, hO1, hF1⟩, -, -, -, -⟩ := id hk1
  refine hz_iloadn (pc := 5) 2 (hz_dec kX12_part 3 rfl) rfl ?_
  refine hz_z_lt (pc := 6) (tgt := 27) (hz_dec kX12_part 4 rfl) (by decide) (by omega) ?_
  refine hz_iloadn (pc := 9) 2 (hz_dec kX12_part 5 rfl) rfl ?_
  refine hz_bipush (pc := 10) (v := nI 7) (hz_dec kX12_part 6 rfl) (by decide) ?_
  refine hz_n_gt (pc := 12) (tgt := 27) (hz_dec kX12_part 7 rfl) (by decide) (by omega) (by omega) (fun h2 => ?_) (fun h2 => ?_)
  · skip
    exact absurd hi (by omega)
  · skip
    refine hz_iload (pc := 15) 3 (hz_dec kX12_part 8 rfl) rfl ?_
    refine hz_z_lt (pc := 17) (tgt := 27) (hz_dec kX12_part 9 rfl) (by decide) (by omega) ?_
    refine hz_iload (pc := 20) 3 (hz_dec kX12_part 10 rfl) rfl ?_
    refine hz_bipush (pc := 22) (v := nI 15) (hz_dec kX12_part 11 rfl) (by decide) ?_
    refine hz_n_le (pc := 24) (tgt := 31) (hz_dec kX12_part 12 rfl) (by decide) (by omega) (by omega) (fun h4 => ?_) (fun h4 => ?_)
    · skip
      refine hz_aloadn (pc := 31) 0 (hz_dec kX12_part 15 rfl) rfl ?_
      refine hz_aloadn (pc := 32) 0 (hz_dec kX12_part 16 rfl) rfl ?_
      refine hz_lloadn (pc := 33) 1 (hz_dec kX12_part 17 rfl) rfl ?_
      refine hz_iloadn (pc := 34) 2 (hz_dec kX12_part 18 rfl) rfl ?_
      refine hz_callV (pc := 35) (a := B) (As := [.long sd, .int (nI i)]) (st := [.ref B]) (hz_dec kX12_part 19 rfl) co_X12_346 im_X12_partBegin se_X12_partBegin rfl hO1 h8 (by omega) (c_partBegin hk1 hE1.s (v := sd) (i := i) (by omega)) rfl (by decide) ⟨Nat.le_refl _, Nat.le_refl _⟩ (Nat.le_of_ble_eq_true rfl) rfl (fun r9 z9 M2 hp9 => ?_)
      obtain ⟨rfl, rfl, hf2, hs2, hv2⟩ := hp9
      have hm2 : mfr B [] [3, 4, 5, 6] M1 M2 := mfr.ofl hk1.1 hf2 rfl
      have hR2 : hmR M2 z B H := hR1.sc hm2 (hE1.hs hm2 hs2 rfl) rfl rfl rfl rfl rfl rfl rfl rfl rfl rfl rfl rfl rfl rfl rfl rfl rfl rfl rfl
      obtain ⟨hk2, hE2, ⟨n2, d2, q2⟩, hNd2, a52, a62, a72, a82⟩ := id hR2
      obtain ⟨⟨fs2, hO2, hF2⟩, -, -, -, -⟩ := id hk2
      refine hz_iloadn (pc := 38) 2 (hz_dec kX12_part 20 rfl) rfl ?_
      refine hz_iconst (pc := 39) (v := nI 0) (hz_dec kX12_part 21 rfl) (by decide) ?_
      refine hz_iload (pc := 40) 3 (hz_dec kX12_part 22 rfl) rfl ?_
      refine hz_callV (pc := 42) (a := B) (As := [.long (ky_b sd i), .int (nI i), .int (nI 0), .int (nI n)]) (st := []) (hz_dec kX12_part 23 rfl) co_X12_350 im_X12_partSteps se_X12_partSteps rfl hO2 h8 (by omega) (c_partSteps hk2 hE2.s (v := ky_b sd i) (i := i) (a := 0) (b := n) (by omega) (by omega) hn) rfl (by decide) ⟨Nat.le_refl _, Nat.le_refl _⟩ (Nat.le_of_ble_eq_true rfl) rfl (fun r9 z9 M3 hp9 => ?_)
      obtain ⟨rfl, rfl, hf3, hs3, hv3⟩ := hp9
      have hm3 : mfr B [] [3, 4, 5, 6] M2 M3 := mfr.ofl hk2.1 hf3 rfl
      have hR3 : hmR M3 z B H := hR2.sc hm3 (hE2.hs hm3 hs3 rfl) rfl rfl rfl rfl rfl rfl rfl rfl rfl rfl rfl rfl rfl rfl rfl rfl rfl rfl rfl
      exact hz_lret (pc := 45) (hz_dec kX12_part 24 rfl) rfl ⟨rfl, rfl, ((hf1.S rfl).tr (hm2.S rfl)).tr (hm3.S rfl), hR3⟩
    · skip
      exact absurd hn (by omega)
set_option maxHeartbeats 4000000 in
set_option maxRecDepth 100000 in
theorem c_rpartBd {κ : hz_C} {z B : Nat} {M : hz_M} {H : ho_H} (hnn : (hoN H).length ≤ 6) (hT4 : (hoT H).length ≤ 4000) (hR : hmR M z B H) {sd : Int64} {i n : Int32} (hb : i < 0 ∨ nI 7 < i ∨ n < 0 ∨ ¬ n ≤ nI 15) : hz_Mt κ xX12_part 6 0 0 [.ref B, .long sd, .int i, .int n] z M (hmP M z B (.long 0) H) := by
  refine hz_ent (lo := [(0, .ref B), (1, .long sd), (3, .int i), (4, .int n)]) (by decide) (Nat.le_of_ble_eq_true rfl) rfl ?_
  obtain ⟨hk0_, hE0, ⟨m1, m2, m3⟩, hNd, a5, a6, a7, a8⟩ := id hR
  obtain ⟨⟨fs, hO, hF⟩, -, -, h8, hz⟩ := id hk0_
  obtain ⟨x1, x3, x4, x5, x6, x7, x8⟩ := id m3
  refine hz_aloadn (pc := 0) 0 (hz_dec kX12_part 0 rfl) rfl ?_
  refine hz_iconst (pc := 1) (v := nI 0) (hz_dec kX12_part 1 rfl) (by decide) ?_
  refine hz_puti (pc := 2) (hz_dec kX12_part 2 rfl) fo_X12_302 ft_X12_0 hO h8 (by omega) (by rw [hF.1]; decide) ?_
  have hf1 : mfr B [0, 89] [] M (va_up M B (.inr (12, (List.set fs 0 (.int (nI 0)))))) := (mfr.rf ⟨fs, hO, hF⟩).upO (k := 0) hO hF rfl rfl
  have hR1 : hmR (va_up M B (.inr (12, (List.set fs 0 (.int (nI 0)))))) z B H := hR.m0 hf1 hE0.upO ((fdB_of (va_up_self _ _ _) 89).trans ((List.getElem?_set_ne (by decide)).trans ((fdB_of hO 89).symm.trans x8)))
  generalize (va_up M B (.inr (12, (List.set fs 0 (.int (nI 0)))))) = M1 at *
  obtain ⟨hk1, hE1, ⟨n1, d1, q1⟩, hNd1, a51, a61, a71, a81⟩ := id hR1
  obtain ⟨⟨fs1, hO1, hF1⟩, -, -, -, -⟩ := id hk1
  refine hz_iloadn (pc := 5) 2 (hz_dec kX12_part 3 rfl) rfl ?_
  refine hz_if_lt (pc := 6) (tgt := 27) (hz_dec kX12_part 4 rfl) (by decide) (fun h1 => ?_) (fun h1 => ?_)
  · skip
    refine hz_lconst (pc := 27) (v := 0) (hz_dec kX12_part 13 rfl) (by decide) ?_
    refine hz_goto (pc := 28) (tgt := 45) (hz_dec kX12_part 14 rfl) (by decide) ?_
    exact hz_lret (pc := 45) (hz_dec kX12_part 24 rfl) rfl ⟨rfl, rfl, hf1.S rfl, hR1⟩
  · skip
    refine hz_iloadn (pc := 9) 2 (hz_dec kX12_part 5 rfl) rfl ?_
    refine hz_bipush (pc := 10) (v := nI 7) (hz_dec kX12_part 6 rfl) (by decide) ?_
    refine hz_icmp_gt (pc := 12) (tgt := 27) (hz_dec kX12_part 7 rfl) (by decide) (fun h2 => ?_) (fun h2 => ?_)
    · skip
      refine hz_lconst (pc := 27) (v := 0) (hz_dec kX12_part 13 rfl) (by decide) ?_
      refine hz_goto (pc := 28) (tgt := 45) (hz_dec kX12_part 14 rfl) (by decide) ?_
      exact hz_lret (pc := 45) (hz_dec kX12_part 24 rfl) rfl ⟨rfl, rfl, hf1.S rfl, hR1⟩
    · skip
      refine hz_iload (pc := 15) 3 (hz_dec kX12_part 8 rfl) rfl ?_
      refine hz_if_lt (pc := 17) (tgt := 27) (hz_dec kX12_part 9 rfl) (by decide) (fun h3 => ?_) (fun h3 => ?_)
      · skip
        refine hz_lconst (pc := 27) (v := 0) (hz_dec kX12_part 13 rfl) (by decide) ?_
        refine hz_goto (pc := 28) (tgt := 45) (hz_dec kX12_part 14 rfl) (by decide) ?_
        exact hz_lret (pc := 45) (hz_dec kX12_part 24 rfl) rfl ⟨rfl, rfl, hf1.S rfl, hR1⟩
      · skip
        refine hz_iload (pc := 20) 3 (hz_dec kX12_part 10 rfl) rfl ?_
        refine hz_bipush (pc := 22) (v := nI 15) (hz_dec kX12_part 11 rfl) (by decide) ?_
        refine hz_icmp_le (pc := 24) (tgt := 31) (hz_dec kX12_part 12 rfl) (by decide) (fun h4 => ?_) (fun h4 => ?_)
        · skip
          exact absurd h4 (((hb.resolve_left h1).resolve_left h2).resolve_left h3)
        · skip
          refine hz_lconst (pc := 27) (v := 0) (hz_dec kX12_part 13 rfl) (by decide) ?_
          refine hz_goto (pc := 28) (tgt := 45) (hz_dec kX12_part 14 rfl) (by decide) ?_
          exact hz_lret (pc := 45) (hz_dec kX12_part 24 rfl) rfl ⟨rfl, rfl, hf1.S rfl, hR1⟩
set_option maxHeartbeats 4000000 in
set_option maxRecDepth 100000 in
theorem c_hash {κ : hz_C} {z : Nat} {M : hz_M} {H : ho_H} (hz : 63 + 34 * (hoN H).length ≤ z) (hnn : (hoN H).length ≤ 6) (hT4 : (hoT H).length ≤ 4000) {ll : Nat} {fr kn : Int32} (hR : hcR M z H ll fr kn) {t : Int32} {k : Nat} (hk : k < 4) : hz_Mt κ xX11_hash 3 0 0 [.ref 8, .int t, .int (nI k)] z M (hcP M z H (.long (sh_lim (if t = 0 then shS (hoT H) else sh_2 (shS (hoT H))) k)) H) := by
  refine hz_ent (lo := [(0, .ref 8), (1, .int t), (2, .int (nI k))]) (by decide) (Nat.le_of_ble_eq_true rfl) rfl ?_
  have hH := hR.1
  have hNs := hR.2.1
  obtain ⟨hO, hQ, hD⟩ := id hR.2.2.2.2.1
  obtain ⟨g53, h53⟩ := hR.2.2.2.2.2.1
  have hJ := hR.2.2.2.1
  obtain ⟨g56, h56, hT56⟩ := hR.2.2.2.2.2.2.2.2.2.1
  have hdf := hR.2.2.2.2.2.2.2.2.2.2
  have hck : ck_k M z := hJ.2.2.2.2.2.2.2.1
  have hcs : ck_s M := hJ.2.2.2.2.2.2.2.2.1
  have hz63 : 63 ≤ z := by omega
  have eS : sh_h g56 0 (hoT H).length = shS (hoT H) := shS_of hT56 rfl
  refine hz_aloadn (pc := 0) 0 (hz_dec kX11_hash 0 rfl) rfl ?_
  refine hz_get (pc := 1) (hz_dec kX11_hash 1 rfl) fo_X11_21 hH (by omega) (by omega) rfl ?_
  refine hz_aloadn (pc := 4) 0 (hz_dec kX11_hash 2 rfl) rfl ?_
  refine hz_get (pc := 5) (hz_dec kX11_hash 3 rfl) fo_X11_72 hH (by omega) (by omega) rfl ?_
  refine hz_iconst (pc := 8) (v := nI 0) (hz_dec kX11_hash 4 rfl) (by decide) ?_
  refine hz_aloadn (pc := 9) 0 (hz_dec kX11_hash 5 rfl) rfl ?_
  refine hz_get (pc := 10) (hz_dec kX11_hash 6 rfl) fo_X11_124 hH (by omega) (by omega) rfl ?_
  refine hz_callV (pc := 13) (a := 9) (As := [.ref 56, .int (nI 0), .int (nI ((hoT H).length))]) (st := []) (hz_dec kX11_hash 7 rfl) co_X11_133 im_X8_digest se_X8_digest rfl hck.1 (by omega) (by omega) (c_digF hck hcs (at_ := 0) (n := (hoT H).length) h56 (by decide) (by omega) (by decide) (by omega)) rfl (by decide) ⟨Nat.le_refl _, Nat.le_refl _⟩ (Nat.le_of_ble_eq_true rfl) rfl (fun r9 z9 M2 hp9 => ?_)
  obtain ⟨rfl, rfl, hf2, hs2, hv2⟩ := hp9
  have hfS2 : frS [(9, 39)] M M2 := hf2.S0 rfl
  have hJ2 : juS M2 z := hJ.k hf2 rfl rfl rfl hs2
  have hR2 : hcR M2 z H ll fr kn := hR.j hfS2 hJ2
  obtain ⟨v2, w2, x2⟩ := hv2
  have hck2 : ck_k M2 z := hJ2.2.2.2.2.2.2.2.1
  have hcs2 : ck_s M2 := hJ2.2.2.2.2.2.2.2.2.1
  have hH2 := hR2.1
  rw [eS] at x2
  refine hz_iloadn (pc := 16) 1 (hz_dec kX11_hash 8 rfl) rfl ?_
  refine hz_if_eq (pc := 17) (tgt := 27) (hz_dec kX11_hash 9 rfl) (by decide) (fun h1 => ?_) (fun h1 => ?_)
  · skip
    refine hz_aloadn (pc := 27) 0 (hz_dec kX11_hash 13 rfl) rfl ?_
    refine hz_get (pc := 28) (hz_dec kX11_hash 14 rfl) fo_X11_21 hH2 (by omega) (by omega) rfl ?_
    refine hz_iloadn (pc := 31) 2 (hz_dec kX11_hash 15 rfl) rfl ?_
    refine hz_callV (pc := 32) (a := 9) (As := [.int (nI k)]) (st := []) (hz_dec kX11_hash 16 rfl) co_X11_140 im_X8_limbOf se_X8_limbOf rfl hck2.1 (by omega) (by omega) (c_limbOf hck2.1 w2 ⟨by decide, by omega⟩ ⟨by decide, by omega⟩ hk) rfl (by decide) ⟨Nat.le_refl _, Nat.le_refl _⟩ (Nat.le_of_ble_eq_true rfl) rfl (fun r9 z9 M9 hp9 => ?_)
    obtain ⟨rfl, rfl, rfl⟩ := hp9
    exact hz_lret (pc := 35) (hz_dec kX11_hash 17 rfl) rfl ⟨by rw [if_pos h1]; exact congrArg (fun y => some (Value.long y)) ((sh_lim_c hk x2).symm), rfl, (hfS2.mono (fun q (h9 : outS [(8, 63 + 34 * (hoN H).length)] q) => ⟨by have r := h9.1; omega, trivial⟩)), ll, fr, kn, hR2⟩
  · skip
    refine hz_aloadn (pc := 20) 0 (hz_dec kX11_hash 10 rfl) rfl ?_
    refine hz_get (pc := 21) (hz_dec kX11_hash 11 rfl) fo_X11_21 hH2 (by omega) (by omega) rfl ?_
    refine hz_callV (pc := 24) (a := 9) (As := []) (st := []) (hz_dec kX11_hash 12 rfl) co_X11_137 im_X8_again se_X8_again rfl hck2.1 (by omega) (by omega) (c_agF hck2 hcs2 w2) rfl (by decide) ⟨Nat.le_refl _, Nat.le_refl _⟩ (Nat.le_of_ble_eq_true rfl) rfl (fun r9 z9 M3 hp9 => ?_)
    obtain ⟨rfl, rfl, hf3, hs3, v3, w3, x3⟩ := hp9
    have hfS3 : frS [(9, 39)] M2 M3 := hf3.S0 rfl
    have hJ3 : juS M3 z := hJ2.k hf3 rfl rfl rfl hs3
    have hR3 : hcR M3 z H ll fr kn := hR2.j hfS3 hJ3
    have hck3 : ck_k M3 z := hJ3.2.2.2.2.2.2.2.1
    have hH3 := hR3.1
    have e2 := sh_2_c x2
    refine hz_aloadn (pc := 27) 0 (hz_dec kX11_hash 13 rfl) rfl ?_
    refine hz_get (pc := 28) (hz_dec kX11_hash 14 rfl) fo_X11_21 hH3 (by omega) (by omega) rfl ?_
    refine hz_iloadn (pc := 31) 2 (hz_dec kX11_hash 15 rfl) rfl ?_
    refine hz_callV (pc := 32) (a := 9) (As := [.int (nI k)]) (st := []) (hz_dec kX11_hash 16 rfl) co_X11_140 im_X8_limbOf se_X8_limbOf rfl hck3.1 (by omega) (by omega) (c_limbOf hck3.1 w3 ⟨by decide, by omega⟩ ⟨by decide, by omega⟩ hk) rfl (by decide) ⟨Nat.le_refl _, Nat.le_refl _⟩ (Nat.le_of_ble_eq_true rfl) rfl (fun r9 z9 M9 hp9 => ?_)
    obtain ⟨rfl, rfl, rfl⟩ := hp9
    exact hz_lret (pc := 35) (hz_dec kX11_hash 17 rfl) rfl ⟨by rw [if_neg h1]; exact congrArg (fun y => some (Value.long y)) ((sh_lim_c hk (fun j hj => (x3 j hj).trans (congrFun e2 j))).symm), rfl, ((hfS2.tr hfS3).mono (fun q (h9 : outS [(8, 63 + 34 * (hoN H).length)] q) => ⟨by have r := h9.1; omega, trivial⟩)), ll, fr, kn, hR3⟩
set_option maxHeartbeats 4000000 in
set_option maxRecDepth 100000 in
theorem c_hashB {κ : hz_C} {z : Nat} {M : hz_M} {H : ho_H} (hz : 63 + 34 * (hoN H).length ≤ z) (hnn : (hoN H).length ≤ 6) (hT4 : (hoT H).length ≤ 4000) {ll : Nat} {fr kn : Int32} (hR : hcR M z H ll fr kn) {t k : Int32} (hk : k < 0 ∨ 3 < k) : hz_Mt κ xX11_hash 3 0 0 [.ref 8, .int t, .int k] z M (hcP M z H (.long 0) H) := by
  refine hz_ent (lo := [(0, .ref 8), (1, .int t), (2, .int k)]) (by decide) (Nat.le_of_ble_eq_true rfl) rfl ?_
  have hH := hR.1
  have hNs := hR.2.1
  obtain ⟨hO, hQ, hD⟩ := id hR.2.2.2.2.1
  obtain ⟨g53, h53⟩ := hR.2.2.2.2.2.1
  have hJ := hR.2.2.2.1
  obtain ⟨g56, h56, hT56⟩ := hR.2.2.2.2.2.2.2.2.2.1
  have hdf := hR.2.2.2.2.2.2.2.2.2.2
  have hck : ck_k M z := hJ.2.2.2.2.2.2.2.1
  have hcs : ck_s M := hJ.2.2.2.2.2.2.2.2.1
  have hz63 : 63 ≤ z := by omega
  have eS : sh_h g56 0 (hoT H).length = shS (hoT H) := shS_of hT56 rfl
  refine hz_aloadn (pc := 0) 0 (hz_dec kX11_hash 0 rfl) rfl ?_
  refine hz_get (pc := 1) (hz_dec kX11_hash 1 rfl) fo_X11_21 hH (by omega) (by omega) rfl ?_
  refine hz_aloadn (pc := 4) 0 (hz_dec kX11_hash 2 rfl) rfl ?_
  refine hz_get (pc := 5) (hz_dec kX11_hash 3 rfl) fo_X11_72 hH (by omega) (by omega) rfl ?_
  refine hz_iconst (pc := 8) (v := nI 0) (hz_dec kX11_hash 4 rfl) (by decide) ?_
  refine hz_aloadn (pc := 9) 0 (hz_dec kX11_hash 5 rfl) rfl ?_
  refine hz_get (pc := 10) (hz_dec kX11_hash 6 rfl) fo_X11_124 hH (by omega) (by omega) rfl ?_
  refine hz_callV (pc := 13) (a := 9) (As := [.ref 56, .int (nI 0), .int (nI ((hoT H).length))]) (st := []) (hz_dec kX11_hash 7 rfl) co_X11_133 im_X8_digest se_X8_digest rfl hck.1 (by omega) (by omega) (c_digF hck hcs (at_ := 0) (n := (hoT H).length) h56 (by decide) (by omega) (by decide) (by omega)) rfl (by decide) ⟨Nat.le_refl _, Nat.le_refl _⟩ (Nat.le_of_ble_eq_true rfl) rfl (fun r9 z9 M2 hp9 => ?_)
  obtain ⟨rfl, rfl, hf2, hs2, hv2⟩ := hp9
  have hfS2 : frS [(9, 39)] M M2 := hf2.S0 rfl
  have hJ2 : juS M2 z := hJ.k hf2 rfl rfl rfl hs2
  have hR2 : hcR M2 z H ll fr kn := hR.j hfS2 hJ2
  obtain ⟨v2, w2, x2⟩ := hv2
  have hck2 : ck_k M2 z := hJ2.2.2.2.2.2.2.2.1
  have hcs2 : ck_s M2 := hJ2.2.2.2.2.2.2.2.2.1
  have hH2 := hR2.1
  rw [eS] at x2
  refine hz_iloadn (pc := 16) 1 (hz_dec kX11_hash 8 rfl) rfl ?_
  refine hz_if_eq (pc := 17) (tgt := 27) (hz_dec kX11_hash 9 rfl) (by decide) (fun h1 => ?_) (fun h1 => ?_)
  · skip
    refine hz_aloadn (pc := 27) 0 (hz_dec kX11_hash 13 rfl) rfl ?_
    refine hz_get (pc := 28) (hz_dec kX11_hash 14 rfl) fo_X11_21 hH2 (by omega) (by omega) rfl ?_
    refine hz_iloadn (pc := 31) 2 (hz_dec kX11_hash 15 rfl) rfl ?_
    refine hz_callV (pc := 32) (a := 9) (As := [.int k]) (st := []) (hz_dec kX11_hash 16 rfl) co_X11_140 im_X8_limbOf se_X8_limbOf rfl hck2.1 (by omega) (by omega) (c_limbOf0 hck2.1 w2 ⟨by decide, by omega⟩ ⟨by decide, by omega⟩ hk) rfl (by decide) ⟨Nat.le_refl _, Nat.le_refl _⟩ (Nat.le_of_ble_eq_true rfl) rfl (fun r9 z9 M9 hp9 => ?_)
    obtain ⟨rfl, rfl, rfl⟩ := hp9
    exact hz_lret (pc := 35) (hz_dec kX11_hash 17 rfl) rfl ⟨rfl, rfl, (hfS2.mono (fun q (h9 : outS [(8, 63 + 34 * (hoN H).length)] q) => ⟨by have r := h9.1; omega, trivial⟩)), ll, fr, kn, hR2⟩
  · skip
    refine hz_aloadn (pc := 20) 0 (hz_dec kX11_hash 10 rfl) rfl ?_
    refine hz_get (pc := 21) (hz_dec kX11_hash 11 rfl) fo_X11_21 hH2 (by omega) (by omega) rfl ?_
    refine hz_callV (pc := 24) (a := 9) (As := []) (st := []) (hz_dec kX11_hash 12 rfl) co_X11_137 im_X8_again se_X8_again rfl hck2.1 (by omega) (by omega) (c_agF hck2 hcs2 w2) rfl (by decide) ⟨Nat.le_refl _, Nat.le_refl _⟩ (Nat.le_of_ble_eq_true rfl) rfl (fun r9 z9 M3 hp9 => ?_)
    obtain ⟨rfl, rfl, hf3, hs3, v3, w3, x3⟩ := hp9
    have hfS3 : frS [(9, 39)] M2 M3 := hf3.S0 rfl
    have hJ3 : juS M3 z := hJ2.k hf3 rfl rfl rfl hs3
    have hR3 : hcR M3 z H ll fr kn := hR2.j hfS3 hJ3
    have hck3 : ck_k M3 z := hJ3.2.2.2.2.2.2.2.1
    have hH3 := hR3.1
    have e2 := sh_2_c x2
    refine hz_aloadn (pc := 27) 0 (hz_dec kX11_hash 13 rfl) rfl ?_
    refine hz_get (pc := 28) (hz_dec kX11_hash 14 rfl) fo_X11_21 hH3 (by omega) (by omega) rfl ?_
    refine hz_iloadn (pc := 31) 2 (hz_dec kX11_hash 15 rfl) rfl ?_
    refine hz_callV (pc := 32) (a := 9) (As := [.int k]) (st := []) (hz_dec kX11_hash 16 rfl) co_X11_140 im_X8_limbOf se_X8_limbOf rfl hck3.1 (by omega) (by omega) (c_limbOf0 hck3.1 w3 ⟨by decide, by omega⟩ ⟨by decide, by omega⟩ hk) rfl (by decide) ⟨Nat.le_refl _, Nat.le_refl _⟩ (Nat.le_of_ble_eq_true rfl) rfl (fun r9 z9 M9 hp9 => ?_)
    obtain ⟨rfl, rfl, rfl⟩ := hp9
    exact hz_lret (pc := 35) (hz_dec kX11_hash 17 rfl) rfl ⟨rfl, rfl, ((hfS2.tr hfS3).mono (fun q (h9 : outS [(8, 63 + 34 * (hoN H).length)] q) => ⟨by have r := h9.1; omega, trivial⟩)), ll, fr, kn, hR3⟩
set_option maxHeartbeats 4000000 in
set_option maxRecDepth 100000 in
theorem c_rhash {κ : hz_C} {z B : Nat} {M : hz_M} {H : ho_H} (hnn : (hoN H).length ≤ 6) (hT4 : (hoT H).length ≤ 4000) (hR : hmR M z B H) {t : Int32} {k : Nat} (hk : k < 4) : hz_Mt κ xX12_hash 4 0 0 [.ref B, .int t, .int (nI k)] z M (hmP M z B (.long (sh_lim (if t = 0 then shS (hoT H) else sh_2 (shS (hoT H))) k)) H) := by
  refine hz_ent (lo := [(0, .ref B), (1, .int t), (2, .int (nI k))]) (by decide) (Nat.le_of_ble_eq_true rfl) rfl ?_
  obtain ⟨hk0_, hE0, ⟨m1, m2, m3⟩, hNd, a5, a6, a7, a8⟩ := id hR
  obtain ⟨⟨fs, hO, hF⟩, -, -, h8, hz⟩ := id hk0_
  obtain ⟨x1, x3, x4, x5, x6, x7, x8⟩ := id m3
  refine hz_aloadn (pc := 0) 0 (hz_dec kX12_hash 0 rfl) rfl ?_
  refine hz_iconst (pc := 1) (v := nI 0) (hz_dec kX12_hash 1 rfl) (by decide) ?_
  refine hz_puti (pc := 2) (hz_dec kX12_hash 2 rfl) fo_X12_302 ft_X12_0 hO h8 (by omega) (by rw [hF.1]; decide) ?_
  have hf1 : mfr B [0, 89] [] M (va_up M B (.inr (12, (List.set fs 0 (.int (nI 0)))))) := (mfr.rf ⟨fs, hO, hF⟩).upO (k := 0) hO hF rfl rfl
  have hR1 : hmR (va_up M B (.inr (12, (List.set fs 0 (.int (nI 0)))))) z B H := hR.m0 hf1 hE0.upO ((fdB_of (va_up_self _ _ _) 89).trans ((List.getElem?_set_ne (by decide)).trans ((fdB_of hO 89).symm.trans x8)))
  generalize (va_up M B (.inr (12, (List.set fs 0 (.int (nI 0)))))) = M1 at *
  obtain ⟨hk1, hE1, ⟨n1, d1, q1⟩, hNd1, a51, a61, a71, a81⟩ := id hR1
  obtain ⟨⟨fs1, hO1, hF1⟩, -, -, -, -⟩ := id hk1
  have g95_1 : fs1[95]? = some (.int (nI ((hoT H).length))) := (fdB_of hO1 95).symm.trans a61
  have eS : sh_h (fA M1 B 80) 0 (hoT H).length = shS (hoT H) := shS_of a51 rfl
  refine hz_iloadn (pc := 5) 2 (hz_dec kX12_hash 3 rfl) rfl ?_
  refine hz_z_lt (pc := 6) (tgt := 14) (hz_dec kX12_hash 4 rfl) (by decide) (by omega) ?_
  refine hz_iloadn (pc := 9) 2 (hz_dec kX12_hash 5 rfl) rfl ?_
  refine hz_iconst (pc := 10) (v := nI 3) (hz_dec kX12_hash 6 rfl) (by decide) ?_
  refine hz_n_le (pc := 11) (tgt := 16) (hz_dec kX12_hash 7 rfl) (by decide) (by omega) (by omega) (fun h2 => ?_) (fun h2 => ?_)
  · skip
    refine hz_iloadn (pc := 16) 1 (hz_dec kX12_hash 10 rfl) rfl ?_
    refine hz_if_eq (pc := 17) (tgt := 36) (hz_dec kX12_hash 11 rfl) (by decide) (fun h3 => ?_) (fun h3 => ?_)
    · skip
      refine hz_aloadn (pc := 36) 0 (hz_dec kX12_hash 20 rfl) rfl ?_
      refine hz_aloadn (pc := 37) 0 (hz_dec kX12_hash 21 rfl) rfl ?_
      refine hz_get (pc := 38) (v := .ref (B + 80)) (hz_dec kX12_hash 22 rfl) fo_X12_261 hO1 h8 (by omega) (hF1.2 94 (by decide) (by decide)) ?_
      refine hz_iconst (pc := 41) (v := nI 0) (hz_dec kX12_hash 23 rfl) (by decide) ?_
      refine hz_aloadn (pc := 42) 0 (hz_dec kX12_hash 24 rfl) rfl ?_
      refine hz_get (pc := 43) (v := .int (nI ((hoT H).length))) (hz_dec kX12_hash 25 rfl) fo_X12_679 hO1 h8 (by omega) g95_1 ?_
      refine hz_callV (pc := 46) (a := B) (As := [.ref (B + 80), .int (nI 0), .int (nI ((hoT H).length))]) (st := []) (hz_dec kX12_hash 26 rfl) co_X12_326 im_X12_hashOf se_X12_hashOf rfl hO1 h8 (by omega) (c_hashF hk1 hE1.s (at_ := 0) (n := (hoT H).length) (hE1.a80) (by omega) (by omega) (by decide) (by omega)) rfl (by decide) ⟨Nat.le_refl _, Nat.le_refl _⟩ (Nat.le_of_ble_eq_true rfl) rfl (fun r9 z9 M2 hp9 => ?_)
      obtain ⟨rfl, rfl, hf2, hs2, hv2⟩ := hp9
      have hm2 : mfr B [] [3, 4, 5] M1 M2 := mfr.ofl hk1.1 hf2 rfl
      have hR2 : hmR M2 z B H := hR1.sc hm2 (hE1.hs hm2 hs2 rfl) rfl rfl rfl rfl rfl rfl rfl rfl rfl rfl rfl rfl rfl rfl rfl rfl rfl rfl rfl
      obtain ⟨dg, w2, x2⟩ := hv2
      rw [eS] at x2
      obtain ⟨hk2, hE2, ⟨n2, d2, q2⟩, hNd2, a52, a62, a72, a82⟩ := id hR2
      obtain ⟨⟨fs2, hO2, hF2⟩, -, -, -, -⟩ := id hk2
      refine hz_aloadn (pc := 49) 0 (hz_dec kX12_hash 27 rfl) rfl ?_
      refine hz_get (pc := 50) (v := .ref (B + 5)) (hz_dec kX12_hash 28 rfl) fo_X12_22 hO2 h8 (by omega) (hF2.2 6 (by decide) (by decide)) ?_
      refine hz_bipush (pc := 53) (v := nI 8) (hz_dec kX12_hash 29 rfl) (by decide) ?_
      refine hz_iloadn (pc := 55) 2 (hz_dec kX12_hash 30 rfl) rfl ?_
      refine hz_mulN (pc := 56) (hz_dec kX12_hash 31 rfl) ?_
      refine hz_callS (pc := 57) (As := [.ref (B + 5), .int (nI (8 * k))]) (st := []) (hz_dec kX12_hash 32 rfl) co_X12_330 sc_X12_longAt (c_longAt (at_ := 8 * k) w2 (by omega) (by omega) (by decide) (by omega)) rfl (by decide) ⟨Nat.le_refl _, Nat.le_refl _⟩ (Nat.le_of_ble_eq_true rfl) rfl (fun r9 z9 M9 hp9 => ?_)
      obtain ⟨rfl, rfl, rfl⟩ := hp9
      exact hz_lret (pc := 60) (hz_dec kX12_hash 33 rfl) rfl ⟨by rw [if_pos h3, sh_lim_n x2 hk], rfl, (hf1.S rfl).tr (hm2.S rfl), hR2⟩
    · skip
      refine hz_aloadn (pc := 20) 0 (hz_dec kX12_hash 12 rfl) rfl ?_
      refine hz_aloadn (pc := 21) 0 (hz_dec kX12_hash 13 rfl) rfl ?_
      refine hz_get (pc := 22) (v := .ref (B + 80)) (hz_dec kX12_hash 14 rfl) fo_X12_261 hO1 h8 (by omega) (hF1.2 94 (by decide) (by decide)) ?_
      refine hz_iconst (pc := 25) (v := nI 0) (hz_dec kX12_hash 15 rfl) (by decide) ?_
      refine hz_aloadn (pc := 26) 0 (hz_dec kX12_hash 16 rfl) rfl ?_
      refine hz_get (pc := 27) (v := .int (nI ((hoT H).length))) (hz_dec kX12_hash 17 rfl) fo_X12_679 hO1 h8 (by omega) g95_1 ?_
      refine hz_callV (pc := 30) (a := B) (As := [.ref (B + 80), .int (nI 0), .int (nI ((hoT H).length))]) (st := []) (hz_dec kX12_hash 18 rfl) co_X12_412 im_X12_twiceOf se_X12_twiceOf rfl hO1 h8 (by omega) (c_twiceOf hk1 hE1.s (at_ := 0) (n := (hoT H).length) (hE1.a80) (by omega) (by omega) (by decide) (by omega)) rfl (by decide) ⟨Nat.le_refl _, Nat.le_refl _⟩ (Nat.le_of_ble_eq_true rfl) rfl (fun r9 z9 M2 hp9 => ?_)
      obtain ⟨rfl, rfl, hf2, hs2, hv2⟩ := hp9
      have hm2 : mfr B [] [3, 4, 5, 7] M1 M2 := mfr.ofl hk1.1 hf2 rfl
      have hR2 : hmR M2 z B H := hR1.sc hm2 (hE1.hs hm2 hs2 rfl) rfl rfl rfl rfl rfl rfl rfl rfl rfl rfl rfl rfl rfl rfl rfl rfl rfl rfl rfl
      refine hz_goto (pc := 33) (tgt := 49) (hz_dec kX12_hash 19 rfl) (by decide) ?_
      obtain ⟨dg, w2, x2⟩ := hv2
      rw [eS] at x2
      obtain ⟨hk2, hE2, ⟨n2, d2, q2⟩, hNd2, a52, a62, a72, a82⟩ := id hR2
      obtain ⟨⟨fs2, hO2, hF2⟩, -, -, -, -⟩ := id hk2
      refine hz_aloadn (pc := 49) 0 (hz_dec kX12_hash 27 rfl) rfl ?_
      refine hz_get (pc := 50) (v := .ref (B + 5)) (hz_dec kX12_hash 28 rfl) fo_X12_22 hO2 h8 (by omega) (hF2.2 6 (by decide) (by decide)) ?_
      refine hz_bipush (pc := 53) (v := nI 8) (hz_dec kX12_hash 29 rfl) (by decide) ?_
      refine hz_iloadn (pc := 55) 2 (hz_dec kX12_hash 30 rfl) rfl ?_
      refine hz_mulN (pc := 56) (hz_dec kX12_hash 31 rfl) ?_
      refine hz_callS (pc := 57) (As := [.ref (B + 5), .int (nI (8 * k))]) (st := []) (hz_dec kX12_hash 32 rfl) co_X12_330 sc_X12_longAt (c_longAt (at_ := 8 * k) w2 (by omega) (by omega) (by decide) (by omega)) rfl (by decide) ⟨Nat.le_refl _, Nat.le_refl _⟩ (Nat.le_of_ble_eq_true rfl) rfl (fun r9 z9 M9 hp9 => ?_)
      obtain ⟨rfl, rfl, rfl⟩ := hp9
      exact hz_lret (pc := 60) (hz_dec kX12_hash 33 rfl) rfl ⟨by rw [if_neg h3, sh_lim_n x2 hk], rfl, (hf1.S rfl).tr (hm2.S rfl), hR2⟩
  · skip
    exact absurd hk (by omega)
set_option maxHeartbeats 4000000 in
set_option maxRecDepth 100000 in
theorem c_rhashB {κ : hz_C} {z B : Nat} {M : hz_M} {H : ho_H} (hnn : (hoN H).length ≤ 6) (hT4 : (hoT H).length ≤ 4000) (hR : hmR M z B H) {t k : Int32} (hk : k < 0 ∨ ¬ k ≤ nI 3) : hz_Mt κ xX12_hash 4 0 0 [.ref B, .int t, .int k] z M (hmP M z B (.long 0) H) := by
  refine hz_ent (lo := [(0, .ref B), (1, .int t), (2, .int k)]) (by decide) (Nat.le_of_ble_eq_true rfl) rfl ?_
  obtain ⟨hk0_, hE0, ⟨m1, m2, m3⟩, hNd, a5, a6, a7, a8⟩ := id hR
  obtain ⟨⟨fs, hO, hF⟩, -, -, h8, hz⟩ := id hk0_
  obtain ⟨x1, x3, x4, x5, x6, x7, x8⟩ := id m3
  refine hz_aloadn (pc := 0) 0 (hz_dec kX12_hash 0 rfl) rfl ?_
  refine hz_iconst (pc := 1) (v := nI 0) (hz_dec kX12_hash 1 rfl) (by decide) ?_
  refine hz_puti (pc := 2) (hz_dec kX12_hash 2 rfl) fo_X12_302 ft_X12_0 hO h8 (by omega) (by rw [hF.1]; decide) ?_
  have hf1 : mfr B [0, 89] [] M (va_up M B (.inr (12, (List.set fs 0 (.int (nI 0)))))) := (mfr.rf ⟨fs, hO, hF⟩).upO (k := 0) hO hF rfl rfl
  have hR1 : hmR (va_up M B (.inr (12, (List.set fs 0 (.int (nI 0)))))) z B H := hR.m0 hf1 hE0.upO ((fdB_of (va_up_self _ _ _) 89).trans ((List.getElem?_set_ne (by decide)).trans ((fdB_of hO 89).symm.trans x8)))
  generalize (va_up M B (.inr (12, (List.set fs 0 (.int (nI 0)))))) = M1 at *
  obtain ⟨hk1, hE1, ⟨n1, d1, q1⟩, hNd1, a51, a61, a71, a81⟩ := id hR1
  obtain ⟨⟨fs1, hO1, hF1⟩, -, -, -, -⟩ := id hk1
  have g95_1 : fs1[95]? = some (.int (nI ((hoT H).length))) := (fdB_of hO1 95).symm.trans a61
  refine hz_iloadn (pc := 5) 2 (hz_dec kX12_hash 3 rfl) rfl ?_
  refine hz_if_lt (pc := 6) (tgt := 14) (hz_dec kX12_hash 4 rfl) (by decide) (fun h1 => ?_) (fun h1 => ?_)
  · skip
    refine hz_lconst (pc := 14) (v := 0) (hz_dec kX12_hash 8 rfl) (by decide) ?_
    exact hz_lret (pc := 15) (hz_dec kX12_hash 9 rfl) rfl ⟨rfl, rfl, hf1.S rfl, hR1⟩
  · skip
    refine hz_iloadn (pc := 9) 2 (hz_dec kX12_hash 5 rfl) rfl ?_
    refine hz_iconst (pc := 10) (v := nI 3) (hz_dec kX12_hash 6 rfl) (by decide) ?_
    refine hz_icmp_le (pc := 11) (tgt := 16) (hz_dec kX12_hash 7 rfl) (by decide) (fun h2 => ?_) (fun h2 => ?_)
    · skip
      exact absurd h2 (hk.resolve_left h1)
    · skip
      refine hz_lconst (pc := 14) (v := 0) (hz_dec kX12_hash 8 rfl) (by decide) ?_
      exact hz_lret (pc := 15) (hz_dec kX12_hash 9 rfl) rfl ⟨rfl, rfl, hf1.S rfl, hR1⟩
