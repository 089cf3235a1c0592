/-! root -/
theorem rt_sm {d g : Nat → Int32} {R T : by_L} (hd : isA d 0 R) (hR : R.length = 32) (hg : isA g 0 T) (hT : 64 ≤ T.length) : smB d g 0 32 32 = decide (R = subL T 32 32) := by
  have e1 : ∀ j, j < 32 → d (0 + j) = lf R j := fun j hj => hd j (by omega)
  have e2 : ∀ j, j < 32 → g (32 + j) = lf T (32 + j) := fun j hj => by have q := hg (32 + j) (by omega); rw [Nat.zero_add] at q; exact q
  have e3 : cutL d 0 32 = R := by have q := cutL_eq hd; rw [hR] at q; exact q
  unfold smB
  refine decide_eq_decide.mpr ⟨fun h => ?_, fun h j hj => ?_⟩
  · rw [← e3]
    unfold subL cutL
    refine List.map_congr_left (fun j hj => ?_)
    have hj32 : j < 32 := List.mem_range.mp hj
    rw [h j hj32, e2 j hj32]
  · rw [e1 j hj, h, e2 j hj]
    exact lf_cutL hj
theorem rp_A {f g d : Nat → Int32} {T : by_L} (hg : isA g 0 T) (hd : isA d 0 (rtS T)) (hR : (rtS T).length = 32) (h1 : ∀ j, j < 32 → f (32 + j) = d j) (h2 : ∀ q, q < 32 ∨ 32 + 32 ≤ q → f q = g q) : isA f 0 (rpS T) := by
  intro j hj
  rw [rpS_len] at hj
  have q := hg j hj
  rw [Nat.zero_add] at q ⊢
  rw [show lf (rpS T) j = (fun j => if 32 ≤ j ∧ j < 64 then lf (rtS T) (j - 32) else lf T j) (0 + j) from lf_cutL hj]
  rw [Nat.zero_add]
  by_cases c : 32 ≤ j ∧ j < 64
  · have e := h1 (j - 32) (by omega)
    rw [show 32 + (j - 32) = j by omega] at e
    have e2 := hd (j - 32) (by omega)
    rw [Nat.zero_add] at e2
    show f j = if 32 ≤ j ∧ j < 64 then lf (rtS T) (j - 32) else lf T j
    rw [if_pos c, e, e2]
  · show f j = if 32 ≤ j ∧ j < 64 then lf (rtS T) (j - 32) else lf T j
    rw [if_neg c, h2 j (by omega), q]
def roT (T : by_L) : by_L := if bkN T = 0 then T else rpS T
theorem roT_len (T : by_L) : (roT T).length = T.length := by
  unfold roT
  split
  · rfl
  · exact rpS_len T
def roA (T : by_L) : Int32 := if bkN T = 0 then -4 else if rtS T = subL T 32 32 then nI 0 else nI 1
theorem roA_p {T : by_L} (h : (0 : Int32) ≤ (if bkN T = 0 then -1 else if rtS T = subL T 32 32 then nI 0 else nI 1)) : (if bkN T = 0 then -1 else if rtS T = subL T 32 32 then nI 0 else nI 1) = roA T := by
  unfold roA
  by_cases c : bkN T = 0
  · rw [if_pos c] at h; exact absurd h (by decide)
  · rw [if_neg c, if_neg c]
theorem roA_n {T : by_L} (h : ¬ (0 : Int32) ≤ (if bkN T = 0 then -1 else if rtS T = subL T 32 32 then nI 0 else nI 1)) : roA T = -4 := by
  unfold roA
  by_cases c : bkN T = 0
  · rw [if_pos c]
  · rw [if_neg c] at h
    by_cases c2 : rtS T = subL T 32 32
    · rw [if_pos c2] at h; exact absurd (by decide) h
    · rw [if_neg c2] at h; exact absurd (by decide) h
set_option maxHeartbeats 4000000 in
set_option maxRecDepth 100000 in
theorem c_root {κ : hz_C} {z : Nat} {M : hz_M} {H : ho_H} (hz : 63 + 34 * (hoN H).length ≤ z) (hnn : (hoN H).length ≤ 6) (hT4 : (hoT H).length ≤ 4000) {ll : Nat} {fr kn : Int32} (hR : hcR M z H ll fr kn)  : hz_Mt κ xX11_root 5 0 0 [.ref 8] z M (hcP M z H (.int (roA (hoT H))) (hot H (roT (hoT H)) (hoE H))) := by
  refine hz_ent (lo := [(0, .ref 8)]) (by decide) (Nat.le_of_ble_eq_true rfl) rfl ?_
  have hH := hR.1
  have hNs := hR.2.1
  obtain ⟨hO, hQ, hD⟩ := id hR.2.2.2.2.1
  obtain ⟨g53, h53⟩ := hR.2.2.2.2.2.1
  have hJ := hR.2.2.2.1
  obtain ⟨g56, h56, hT56⟩ := hR.2.2.2.2.2.2.2.2.2.1
  have hdf := hR.2.2.2.2.2.2.2.2.2.2
  have hck : ck_k M z := hJ.2.2.2.2.2.2.2.1
  have hcs : ck_s M := hJ.2.2.2.2.2.2.2.2.1
  have hz63 : 63 ≤ z := by omega
  obtain ⟨bf, fe, hj25⟩ := id hJ.1
  refine hz_aloadn (pc := 0) 0 (hz_dec kX11_root 0 rfl) rfl ?_
  refine hz_get (pc := 1) (hz_dec kX11_root 1 rfl) fo_X11_46 hH (by omega) (by omega) rfl ?_
  refine hz_aloadn (pc := 4) 0 (hz_dec kX11_root 2 rfl) rfl ?_
  refine hz_get (pc := 5) (hz_dec kX11_root 3 rfl) fo_X11_72 hH (by omega) (by omega) rfl ?_
  refine hz_aloadn (pc := 8) 0 (hz_dec kX11_root 4 rfl) rfl ?_
  refine hz_get (pc := 9) (hz_dec kX11_root 5 rfl) fo_X11_124 hH (by omega) (by omega) rfl ?_
  refine hz_callV (pc := 12) (a := 25) (As := [.ref 56, .int (nI ((hoT H).length))]) (st := []) (hz_dec kX11_root 6 rfl) co_X11_270 im_X3_putRoot se_X3_putRoot rfl hj25 (by omega) (by omega) (c_putRoot hJ h56 (by decide) (by omega) (by decide) hT56 hT4) rfl (by decide) ⟨Nat.le_refl _, Nat.le_refl _⟩ (Nat.le_of_ble_eq_true rfl) rfl (fun r9 z9 M2 hp9 => ?_)
  obtain ⟨rfl, rfl, hf2, hJ2, g2, h562, hA2, -⟩ := hp9
  have hf3 : frS [(8, 39), (56, 57)] M M2 := hf2.mono (fun q (h9 : outS [(8, 39), (56, 57)] q) => ⟨by have r := h9.1; omega, by have r := h9.1; omega, by have r := h9.1; omega, h9.2.1, trivial⟩)
  have h82 : M2 8 = hoO (roT (hoT H)).length (hoE H) := by rw [roT_len]; exact (hf2.at4 (by omega)).trans hH
  have hR2 : hcR M2 z (hot H (roT (hoT H)) (hoE H)) ll fr kn := hR.jt hf3 h82 hJ2 ⟨g2, h562, hA2⟩
  refine hz_istoren (pc := 15) (i := 1) (lo2 := [(1, .int (if bkN (hoT H) = 0 then -1 else if rtS (hoT H) = subL (hoT H) 32 32 then nI 0 else nI 1)), (0, .ref 8)]) (hz_dec kX11_root 7 rfl) rfl (by decide) rfl ?_
  refine hz_iloadn (pc := 16) 0 (hz_dec kX11_root 8 rfl) rfl ?_
  refine hz_if_ge (pc := 17) (tgt := 25) (hz_dec kX11_root 9 rfl) (by decide) (fun h1 => ?_) (fun h1 => ?_)
  · skip
    have e8 := roA_p h1
    refine hz_iloadn (pc := 25) 0 (hz_dec kX11_root 12 rfl) rfl ?_
    exact hz_iret (pc := 26) (hz_dec kX11_root 13 rfl) rfl ⟨by rw [e8], rfl, (hf3.mono (fun q (h9 : outS [(8, 63 + 34 * (hoN H).length)] q) => ⟨by have r := h9.1; omega, by have r := h9.1; omega, trivial⟩)), ll, fr, kn, hR2⟩
  · skip
    have e8 := roA_n h1
    refine hz_bipush (pc := 20) (v := (-4)) (hz_dec kX11_root 10 rfl) (by decide) ?_
    refine hz_goto (pc := 22) (tgt := 26) (hz_dec kX11_root 11 rfl) (by decide) ?_
    exact hz_iret (pc := 26) (hz_dec kX11_root 13 rfl) rfl ⟨by rw [e8], rfl, (hf3.mono (fun q (h9 : outS [(8, 63 + 34 * (hoN H).length)] q) => ⟨by have r := h9.1; omega, by have r := h9.1; omega, trivial⟩)), ll, fr, kn, hR2⟩
set_option maxHeartbeats 4000000 in
set_option maxRecDepth 100000 in
theorem c_rroot {κ : hz_C} {z B : Nat} {M : hz_M} {H : ho_H} (hnn : (hoN H).length ≤ 6) (hT4 : (hoT H).length ≤ 4000) (hR : hmR M z B H)  : hz_Mt κ xX12_root 5 0 0 [.ref B] z M (hmP M z B (.int (roA (hoT H))) (hot H (roT (hoT H)) (hoE H))) := by
  refine hz_ent (lo := [(0, .ref B)]) (by decide) (Nat.le_of_ble_eq_true rfl) rfl ?_
  obtain ⟨hk0_, hE0, ⟨m1, m2, m3⟩, hNd, a5, a6, a7, a8⟩ := id hR
  obtain ⟨⟨fs, hO, hF⟩, -, -, h8, hz⟩ := id hk0_
  obtain ⟨x1, x3, x4, x5, x6, x7, x8⟩ := id m3
  refine hz_aloadn (pc := 0) 0 (hz_dec kX12_root 0 rfl) rfl ?_
  refine hz_iconst (pc := 1) (v := nI 0) (hz_dec kX12_root 1 rfl) (by decide) ?_
  refine hz_puti (pc := 2) (hz_dec kX12_root 2 rfl) fo_X12_302 ft_X12_0 hO h8 (by omega) (by rw [hF.1]; decide) ?_
  have hf1 : mfr B [0, 89] [] M (va_up M B (.inr (12, (List.set fs 0 (.int (nI 0)))))) := (mfr.rf ⟨fs, hO, hF⟩).upO (k := 0) hO hF rfl rfl
  have hR1 : hmR (va_up M B (.inr (12, (List.set fs 0 (.int (nI 0)))))) z B H := hR.m0 hf1 hE0.upO ((fdB_of (va_up_self _ _ _) 89).trans ((List.getElem?_set_ne (by decide)).trans ((fdB_of hO 89).symm.trans x8)))
  generalize (va_up M B (.inr (12, (List.set fs 0 (.int (nI 0)))))) = M1 at *
  obtain ⟨hk1, hE1, ⟨n1, d1, q1⟩, hNd1, a51, a61, a71, a81⟩ := id hR1
  obtain ⟨⟨fs1, hO1, hF1⟩, -, -, -, -⟩ := id hk1
  have g95_1 : fs1[95]? = some (.int (nI ((hoT H).length))) := (fdB_of hO1 95).symm.trans a61
  refine hz_aloadn (pc := 5) 0 (hz_dec kX12_root 3 rfl) rfl ?_
  refine hz_aloadn (pc := 6) 0 (hz_dec kX12_root 4 rfl) rfl ?_
  refine hz_get (pc := 7) (v := .ref (B + 80)) (hz_dec kX12_root 5 rfl) fo_X12_261 hO1 h8 (by omega) (hF1.2 94 (by decide) (by decide)) ?_
  refine hz_iconst (pc := 10) (v := nI 0) (hz_dec kX12_root 6 rfl) (by decide) ?_
  refine hz_aloadn (pc := 11) 0 (hz_dec kX12_root 7 rfl) rfl ?_
  refine hz_get (pc := 12) (v := .int (nI ((hoT H).length))) (hz_dec kX12_root 8 rfl) fo_X12_679 hO1 h8 (by omega) g95_1 ?_
  refine hz_callV (pc := 15) (a := B) (As := [.ref (B + 80), .int (nI 0), .int (nI ((hoT H).length))]) (st := []) (hz_dec kX12_root 9 rfl) co_X12_437 im_X12_isBlock se_X12_isBlock rfl hO1 h8 (by omega) (c_isB hO1 hF1 h8 hz hE1.a14 hE1.a80 (by omega) (by omega) (by decide) hT4) rfl (by decide) ⟨Nat.le_refl _, Nat.le_refl _⟩ (Nat.le_of_ble_eq_true rfl) rfl (fun r9 z9 M2 hp9 => ?_)
  obtain ⟨rfl, rfl, hf2_, s2, pc2, hO2_, h142, hs2⟩ := hp9
  have ha80 : ∀ i, i < (hoT H).length → fA M1 B 80 i = lf (hoT H) i := fun i hi => by have q := a51 i hi; rw [Nat.zero_add] at q; exact q
  have hbn0 : bk_n (fA M1 B 80) (hoT H).length = bkN (hoT H) := bk_n_c ha80
  have hst0 : ∀ j, bk_st (fA M1 B 80) (hoT H).length j = bkS (hoT H) j := fun j => (bk_st_c ha80 j).1
  rw [hbn0] at hs2
  refine hz_eqi (pc := 18) (show _ = hz_b (decide (¬ bkN (hoT H) = 0)) by rw [hbn0]) ?_
  have hf2 : mfr B [16] [14] M1 M2 := ⟨fun a ha => hf2_ a (fun o9 ho9 => ha o9 ho9), ⟨_, hO2_, md_set hF1 rfl⟩, fun k hk9 => by rw [fdB_of hO2_, fdB_of hO1]; exact List.getElem?_set_ne (fun c => by rw [← c] at hk9; cases hk9)⟩
  have hE2_ : mdE M2 B := hE1.gen hf2 (A := []) (E := [14]) rfl sho_n (sho_c (shoA (by decide) h142) sho_n)
  have hR2 : hmR M2 z B H := hR1.sc hf2 hE2_ rfl rfl rfl rfl rfl rfl rfl rfl rfl rfl rfl rfl rfl rfl rfl rfl rfl rfl rfl
  obtain ⟨hk2, hE2, ⟨n2, d2, q2⟩, hNd2, a52, a62, a72, a82⟩ := id hR2
  obtain ⟨⟨fs2, hO2, hF2⟩, -, -, -, -⟩ := id hk2
  refine hz_if_ne (pc := 18) (tgt := 24) (hz_dec kX12_root 10 rfl) (by decide) (fun h1 => ?_) (fun h1 => ?_)
  · skip
    have hW : blW (hoT H) := (show ¬ bkN (hoT H) = 0 from of_decide_eq_true (hz_b1 h1))
    obtain ⟨hbf1, hbf2, hbf3, hbf4, hbf5, hbf6, hbf7⟩ := hW.f
    have hln9 := hW.len
    have hR32 := rtS_len hW
    have h162 : fdB M2 B 16 = some (.int (nI (bkN (hoT H)))) := by rw [fdB_of hO2_, List.getElem?_set_self (by rw [hF1.1]; decide), (hs2 hW).1]
    refine hz_aloadn (pc := 24) 0 (hz_dec kX12_root 13 rfl) rfl ?_
    refine hz_aloadn (pc := 25) 0 (hz_dec kX12_root 14 rfl) rfl ?_
    refine hz_get (pc := 26) (v := .ref (B + 80)) (hz_dec kX12_root 15 rfl) fo_X12_261 hO2 h8 (by omega) (hF2.2 94 (by decide) (by decide)) ?_
    refine hz_callV (pc := 29) (a := B) (As := [.ref (B + 80)]) (st := []) (hz_dec kX12_root 16 rfl) co_X12_441 im_X12_findRoot se_X12_findRoot rfl hO2 h8 (by omega) (c_findRoot hk2 hE2.a80 (by omega) (by omega) (ne_off (by decide)) (by decide) h142 hbf5 (st := bkS (hoT H)) (fun j hj => by rw [(hs2 hW).2 j hj, hst0]) (T := bkT (hoT H)) (fun j hj => ⟨by have q := hW.A a52 hj; rw [Nat.zero_add] at q; exact q, (hW.t hj).1, by have q := (hW.t hj).2.2.2.1; omega⟩) hbf4 hE2.s h162 hE2.a15) rfl (by decide) ⟨Nat.le_refl _, Nat.le_refl _⟩ (Nat.le_of_ble_eq_true rfl) rfl (fun r9 z9 M3 hp9 => ?_)
    obtain ⟨rfl, rfl, hf3, hs3, ⟨g15, h15⟩, dg3, hd3, hdA⟩ := hp9
    have hE3_ : mdE M3 B := hE2.gen hf3 (A := [3, 4, 5, 6, 7, 8, 9]) (E := [15]) rfl hs3.sho (sho_c (shoA (by decide) h15) sho_n)
    have hR3 : hmR M3 z B H := hR2.sc hf3 hE3_ rfl rfl rfl rfl rfl rfl rfl rfl rfl rfl rfl rfl rfl rfl rfl rfl rfl rfl rfl
    obtain ⟨hk3, hE3, ⟨n3, d3, q3⟩, hNd3, a53, a63, a73, a83⟩ := id hR3
    obtain ⟨⟨fs3, hO3, hF3⟩, -, -, -, -⟩ := id hk3
    have g95_3 : fs3[95]? = some (.int (nI ((hoT H).length))) := (fdB_of hO3 95).symm.trans a63
    have g103_3 : fs3[103]? = some (.int (hoE H)) := (fdB_of hO3 103).symm.trans a83
    refine hz_aloadn (pc := 32) 0 (hz_dec kX12_root 17 rfl) rfl ?_
    refine hz_aloadn (pc := 33) 0 (hz_dec kX12_root 18 rfl) rfl ?_
    refine hz_get (pc := 34) (v := .ref (B + 80)) (hz_dec kX12_root 19 rfl) fo_X12_261 hO3 h8 (by omega) (hF3.2 94 (by decide) (by decide)) ?_
    refine hz_bipush (pc := 37) (v := nI 32) (hz_dec kX12_root 20 rfl) (by decide) ?_
    have eS : smB dg3 (fA M3 B 80) 0 32 32 = decide (rtS (hoT H) = subL (hoT H) 32 32) := rt_sm hdA hR32 a53 (by omega)
    refine hz_xV (pc := 39) (a := B) (As := [.ref (B + 80), .int (nI 32)]) (st := []) (hz_dec kX12_root 21 rfl) co_X12_538 im_X12_isDigest se_X12_isDigest rfl hO3 h8 (by omega) (c_isDg hO3 hF3 h8 hz hd3 hE3.a80 (by omega) (by omega) (by decide) (at_ := 32) (by decide)) rfl (by decide) ⟨Nat.le_refl _, Nat.le_refl _⟩ (Nat.le_of_ble_eq_true rfl) rfl ?_
    refine hz_eqi (pc := 42) (show _ = hz_b (decide (rtS (hoT H) = subL (hoT H) 32 32)) by rw [eS]) ?_
    refine hz_istoren (pc := 42) (i := 1) (lo2 := [(1, .int (hz_b (decide (rtS (hoT H) = subL (hoT H) 32 32)))), (0, .ref B)]) (hz_dec kX12_root 22 rfl) rfl (by decide) rfl ?_
    refine hz_aloadn (pc := 43) 1 (hz_dec kX12_root 23 rfl) rfl ?_
    refine hz_aloadn (pc := 44) 1 (hz_dec kX12_root 24 rfl) rfl ?_
    refine hz_get (pc := 45) (v := .ref (B + 80)) (hz_dec kX12_root 25 rfl) fo_X12_261 hO3 h8 (by omega) (hF3.2 94 (by decide) (by decide)) ?_
    refine hz_bipush (pc := 48) (v := nI 32) (hz_dec kX12_root 26 rfl) (by decide) ?_
    refine hz_bytes hd3 (by omega) (by omega) (fun hbd3 => ?_)
    refine hz_callV (pc := 50) (a := B) (As := [.ref (B + 80), .int (nI 32)]) (st := []) (hz_dec kX12_root 27 rfl) co_X12_415 im_X12_keepDigest se_X12_keepDigest rfl hO3 h8 (by omega) (c_keepD (at_ := 32) hO3 hF3 h8 hz hd3 hbd3 hE3.a80 (by omega) (by omega) (by decide) (by decide) (by omega)) rfl (by decide) ⟨Nat.le_refl _, Nat.le_refl _⟩ (Nat.le_of_ble_eq_true rfl) rfl (fun r9 z9 M4 hp9 => ?_)
    obtain ⟨rfl, rfl, f4, u4, w4, rfl⟩ := hp9
    have hf4 : mfr B [95, 103] [80] M3 (va_up M3 (B + 80) (.inl (1, 4000, .inl (f4)))) := ((mfr.rf (ks := [95, 103]) (os := [80]) hk3.1).upA (o := 80) rfl (by decide))
    have hE4 : mdE (va_up M3 (B + 80) (.inl (1, 4000, .inl (f4)))) B := (hE3.upA (k := 80) (t := 1) (n := 4000) (by decide))
    have eT : roT (hoT H) = rpS (hoT H) := if_neg hW
    have hR4 : hmR (va_up M3 (B + 80) (.inl (1, 4000, .inl (f4)))) z B (hot H (roT (hoT H)) (hoE H)) := hR3.t hf4 hE4 (by rw [fA_of (va_up_self _ _ _), eT]; exact rp_A a53 hdA hR32 u4 w4) (by rw [roT_len]; exact (fdB_of (hz_mne hO3 (by omega)) 95).trans g95_3) ((fdB_of (hz_mne hO3 (by omega)) 103).trans g103_3)
    have hfz : frM B M (va_up M3 (B + 80) (.inl (1, 4000, .inl (f4)))) := (((hf1.S rfl).tr (hf2.S rfl)).tr (hf3.S rfl)).tr (hf4.S rfl)
    refine hz_iloadn (pc := 53) 0 (hz_dec kX12_root 28 rfl) rfl ?_
    refine hz_if_eq (pc := 54) (tgt := 61) (hz_dec kX12_root 29 rfl) (by decide) (fun h5 => ?_) (fun h5 => ?_)
    · skip
      have e5 := of_decide_eq_false (hz_b0 h5)
      refine hz_iconst (pc := 61) (v := nI 1) (hz_dec kX12_root 32 rfl) (by decide) ?_
      exact hz_iret (pc := 62) (hz_dec kX12_root 33 rfl) rfl ⟨by unfold roA; rw [if_neg hW, if_neg e5], rfl, hfz, hR4⟩
    · skip
      have e5 := of_decide_eq_true (hz_b1 h5)
      refine hz_iconst (pc := 57) (v := nI 0) (hz_dec kX12_root 30 rfl) (by decide) ?_
      refine hz_goto (pc := 58) (tgt := 62) (hz_dec kX12_root 31 rfl) (by decide) ?_
      exact hz_iret (pc := 62) (hz_dec kX12_root 33 rfl) rfl ⟨by unfold roA; rw [if_neg hW, if_pos e5], rfl, hfz, hR4⟩
  · skip
    have c0 : bkN (hoT H) = 0 := Decidable.not_not.mp (of_decide_eq_false (hz_b0 h1))
    have eH : hot H (roT (hoT H)) (hoE H) = H := by unfold roT; rw [if_pos c0]; rfl
    refine hz_bipush (pc := 21) (v := (-4)) (hz_dec kX12_root 11 rfl) (by decide) ?_
    exact hz_iret (pc := 23) (hz_dec kX12_root 12 rfl) rfl ⟨by unfold roA; rw [if_pos c0], rfl, (hf1.S rfl).tr (hf2.S rfl), by rw [eH]; exact hR2⟩
