/-! assemble: the reference -/
theorem hmR.ta {M M2 : hz_M} {z B : Nat} {H : ho_H} {T : by_L} {e : Int32} (h : hmR M z B H) (f : mfr B [16, 95, 103] [3, 4, 5, 6, 7, 8, 9, 10, 11, 12, 13, 14, 15, 42, 80, 86, 87] M M2) (hE : mdE M2 B) (hT : isA (fA M2 B 80) 0 T) (h95 : fdB M2 B 95 = some (.int (nI T.length))) (h103 : fdB M2 B 103 = some (.int e)) : hmR M2 z B (hot H T e) := by
  obtain ⟨a1, a2, a3, a4, a5, a6, a7, a8⟩ := h
  exact ⟨a1.mf f rfl rfl, hE, a3.mf f rfl rfl, fun v hv => (a4 v hv).sc f rfl rfl rfl rfl rfl, hT, h95, a7.mf f rfl rfl rfl rfl rfl rfl rfl, h103⟩
def raI (M1 M : hz_M) (B s : Nat) (e : Int32) : Prop := mfr B [16, 95, 103] [3, 4, 5, 6, 7, 8, 9, 10, 11, 12, 13, 14, 15, 42, 80, 86, 87] M1 M ∧ mdE M B ∧ fdB M B 95 = some (.int (nI s)) ∧ fdB M B 103 = some (.int e)
theorem asH_z {hh : by_L} {tm bits : Int32} {n ht : Nat} {am ad : Int64} {g1 g2 g3 g4 g5 g6 g0 : Nat → Int32} (h0 : ∀ j, j < 80 → g0 j = if j < 32 then lf hh j else 0) (u1 : ∀ j, j < 4 → g1 (64 + j) = sb_b (byi tm j)) (v1 : ∀ q, q < 64 ∨ 64 + 4 ≤ q → g1 q = g0 q) (u2 : ∀ j, j < 4 → g2 (68 + j) = sb_b (byi bits j)) (v2 : ∀ q, q < 68 ∨ 68 + 4 ≤ q → g2 q = g1 q) (w0 : g3 80 = bI (nI (n + 1))) (w1 : g3 81 = 0) (w2 : g3 82 = 1) (v3 : ∀ q, q < 80 → g3 q = g2 q) (u4 : ∀ j, j < 4 → g4 (83 + j) = sb_b (byi (nI ht) j)) (v4 : ∀ q, q < 83 ∨ 83 + 4 ≤ q → g4 q = g3 q) (u5 : ∀ j, j < 8 → g5 (87 + j) = sb_b (byl am j)) (v5 : ∀ q, q < 87 ∨ 87 + 8 ≤ q → g5 q = g4 q) (u6 : ∀ j, j < 8 → g6 (95 + j) = sb_b (byl ad j)) (v6 : ∀ q, q < 95 ∨ 95 + 8 ≤ q → g6 q = g5 q) : ∀ j, j < 103 → g6 j = asH hh tm bits n ht am ad j := by
  intro j hj
  unfold asH
  rcases (show j < 32 ∨ (32 ≤ j ∧ j < 64) ∨ (64 ≤ j ∧ j < 68) ∨ (68 ≤ j ∧ j < 72) ∨ (72 ≤ j ∧ j < 80) ∨ j = 80 ∨ j = 81 ∨ j = 82 ∨ (83 ≤ j ∧ j < 87) ∨ (87 ≤ j ∧ j < 95) ∨ 95 ≤ j by omega) with c | c | c | c | c | c | c | c | c | c | c
  · rw [if_pos c, v6 j (by omega), v5 j (by omega), v4 j (by omega), v3 j (by omega), v2 j (by omega), v1 j (by omega), h0 j (by omega), if_pos c]
  · rw [if_neg (by omega), if_pos c.2, v6 j (by omega), v5 j (by omega), v4 j (by omega), v3 j (by omega), v2 j (by omega), v1 j (by omega), h0 j (by omega), if_neg (by omega)]
  · rw [if_neg (by omega), if_neg (by omega), if_pos c.2, v6 j (by omega), v5 j (by omega), v4 j (by omega), v3 j (by omega), v2 j (by omega)]
    have q := u1 (j - 64) (by omega)
    rw [show 64 + (j - 64) = j by omega] at q
    exact q
  · rw [if_neg (by omega), if_neg (by omega), if_neg (by omega), if_pos c.2, v6 j (by omega), v5 j (by omega), v4 j (by omega), v3 j (by omega)]
    have q := u2 (j - 68) (by omega)
    rw [show 68 + (j - 68) = j by omega] at q
    exact q
  · rw [if_neg (by omega), if_neg (by omega), if_neg (by omega), if_neg (by omega), if_pos c.2, v6 j (by omega), v5 j (by omega), v4 j (by omega), v3 j (by omega), v2 j (by omega), v1 j (by omega), h0 j (by omega), if_neg (by omega)]
  · rw [if_neg (by omega), if_neg (by omega), if_neg (by omega), if_neg (by omega), if_neg (by omega), if_pos c, v6 j (by omega), v5 j (by omega), v4 j (by omega), c]; exact w0
  · rw [if_neg (by omega), if_neg (by omega), if_neg (by omega), if_neg (by omega), if_neg (by omega), if_neg (by omega), if_pos c, v6 j (by omega), v5 j (by omega), v4 j (by omega), c]; exact w1
  · rw [if_neg (by omega), if_neg (by omega), if_neg (by omega), if_neg (by omega), if_neg (by omega), if_neg (by omega), if_neg (by omega), if_pos c, v6 j (by omega), v5 j (by omega), v4 j (by omega), c]; exact w2
  · rw [if_neg (by omega), if_neg (by omega), if_neg (by omega), if_neg (by omega), if_neg (by omega), if_neg (by omega), if_neg (by omega), if_neg (by omega), if_pos c.2, v6 j (by omega), v5 j (by omega)]
    have q := u4 (j - 83) (by omega)
    rw [show 83 + (j - 83) = j by omega] at q
    exact q
  · rw [if_neg (by omega), if_neg (by omega), if_neg (by omega), if_neg (by omega), if_neg (by omega), if_neg (by omega), if_neg (by omega), if_neg (by omega), if_neg (by omega), if_pos c.2, v6 j (by omega)]
    have q := u5 (j - 87) (by omega)
    rw [show 87 + (j - 87) = j by omega] at q
    exact q
  · rw [if_neg (by omega), if_neg (by omega), if_neg (by omega), if_neg (by omega), if_neg (by omega), if_neg (by omega), if_neg (by omega), if_neg (by omega), if_neg (by omega), if_neg (by omega)]
    have q := u6 (j - 95) (by omega)
    rw [show 95 + (j - 95) = j by omega] at q
    exact q
set_option maxHeartbeats 4000000 in
set_option maxRecDepth 100000 in
theorem c_rs_f {κ : hz_C} {z B : Nat} {M0 M1 : hz_M} {H : ho_H} (hf0 : frM B M0 M1) (hR1 : hmR M1 z B H) (hnn : (hoN H).length ≤ 6) {v : Nat} (hv : v < (hoN H).length) {N : nd_N} (hN : ndL (hoN H) v = N) (hup : N.2.1 = true) (hI : ksI N.1) {sd : Int64} {tm : Int32} (hW : blW (asN N tm sd)) {M : hz_M} (hX : raI M1 M B ((asN N tm sd).length) (hoE H)) (hA : isA (fA M B 80) 0 (asN N tm sd)) : hz_W κ xX12_assemble 8 0 0 (fun r z2 M3 => some (.int (nI (asN N tm sd).length)) = r ∧ z = z2 ∧ frM B M0 M3 ∧ hmR M3 z B (hot H (rpS (asN N tm sd)) (hoE H))) 0 0 463 [(0, .ref B)] [] z M := by
  obtain ⟨hm, hE, h95, h103⟩ := id hX
  have hk : md_k B M z := hR1.1.mf hm rfl rfl
  obtain ⟨⟨fs, hO, hF⟩, -, -, h8, hz⟩ := id hk
  have g95 : fs[95]? = some (.int (nI ((asN N tm sd).length))) := (fdB_of hO 95).symm.trans h95
  have g103 : fs[103]? = some (.int (hoE H)) := (fdB_of hO 103).symm.trans h103
  have h0 : mdN M1 B v N := by have q := hR1.2.2.2.1 v hv; rw [hN] at q; exact q
  have hv6 : v < 6 := by omega
  have h01 : mnS M1 B v 1 N.1 (pvI (ksF N.1)) (ksP N.1) := by have q := h0.1; rw [hup] at q; exact q
  obtain ⟨p1, p2, p3, p4, ⟨p5a, p5b, p5c⟩, p6, p7, p9⟩ := id h01
  obtain ⟨b1, b2, b3, b4, b5, b6, b7, b8⟩ := id (hI.1.p hI.2.1)
  have hpw := hI.2.2.2.1
  have hp16 := hpw.1
  have hb5 := hI.2.1
  have hht := b3.ht (k := ksT N.1) (by omega)
  have hn7 : cgN (ksP N.1) ≤ 7 := Nat.min_le_left _ _
  have hnl : cgN (ksP N.1) ≤ (ksP N.1).length := Nat.min_le_right _ _
  have hxl := cgX_len hpw (cgN (ksP N.1)) hnl
  have hTl : (asN N tm sd).length = 103 + (cgX (ksP N.1) (cgN (ksP N.1))).length := asT_len _ _ _ _ _ _ _ _
  refine hz_aloadn (pc := 463) 0 (hz_dec kX12_assemble 251 rfl) rfl ?_
  refine hz_aloadn (pc := 464) 0 (hz_dec kX12_assemble 252 rfl) rfl ?_
  refine hz_get (pc := 465) (v := .ref (B + 80)) (hz_dec kX12_assemble 253 rfl) fo_X12_261 hO h8 (by omega) (hF.2 94 (by decide) (by decide)) ?_
  refine hz_iconst (pc := 468) (v := nI 0) (hz_dec kX12_assemble 254 rfl) (by decide) ?_
  refine hz_aloadn (pc := 469) 0 (hz_dec kX12_assemble 255 rfl) rfl ?_
  refine hz_get (pc := 470) (v := .int (nI ((asN N tm sd).length))) (hz_dec kX12_assemble 256 rfl) fo_X12_679 hO h8 (by omega) g95 ?_
  refine hz_callV (pc := 473) (a := B) (As := [.ref (B + 80), .int (nI 0), .int (nI ((asN N tm sd).length))]) (st := []) (hz_dec kX12_assemble 257 rfl) co_X12_437 im_X12_isBlock se_X12_isBlock rfl hO h8 (by omega) (c_isB hO hF h8 hz hE.a14 hE.a80 (by omega) (by omega) (by decide) (by omega)) rfl (by decide) ⟨Nat.le_refl _, Nat.le_refl _⟩ (Nat.le_of_ble_eq_true rfl) rfl (fun r9 z9 M2 hp9 => ?_)
  obtain ⟨rfl, rfl, hf2_, s2, pc2, hO2_, h142, hs2⟩ := hp9
  have ha80 : ∀ i, i < (asN N tm sd).length → fA M B 80 i = lf (asN N tm sd) i := fun i hi => by have q := hA i hi; rw [Nat.zero_add] at q; exact q
  have hbn0 : bk_n (fA M B 80) (asN N tm sd).length = bkN (asN N tm sd) := bk_n_c ha80
  have hst0 : ∀ j, bk_st (fA M B 80) (asN N tm sd).length j = bkS (asN N tm sd) j := fun j => (bk_st_c ha80 j).1
  rw [hbn0] at hs2
  have hf2 : mfr B [16] [14] M M2 := ⟨fun a ha => hf2_ a (fun o9 ho9 => ha o9 ho9), ⟨_, hO2_, md_set hF rfl⟩, fun k hk9 => by rw [fdB_of hO2_, fdB_of hO]; exact List.getElem?_set_ne (fun c => by rw [← c] at hk9; cases hk9)⟩
  have hE2_ : mdE M2 B := hE.gen hf2 (A := []) (E := [14]) rfl sho_n (sho_c (shoA (by decide) h142) sho_n)
  have hX2 : raI M1 M2 B ((asN N tm sd).length) (hoE H) := ⟨hm.tr (hf2.mono rfl rfl), hE2_, (hf2.2.2 95 rfl).trans h95, (hf2.2.2 103 rfl).trans h103⟩
  obtain ⟨hm2, hE2, h952, h1032⟩ := id hX2
  have hk2 : md_k B M2 z := hR1.1.mf hm2 rfl rfl
  obtain ⟨⟨fs2, hO2, hF2⟩, -, -, h82, hz2⟩ := id hk2
  have g952 : fs2[95]? = some (.int (nI ((asN N tm sd).length))) := (fdB_of hO2 95).symm.trans h952
  have g1032 : fs2[103]? = some (.int (hoE H)) := (fdB_of hO2 103).symm.trans h1032
  have hA2 : isA (fA M2 B 80) 0 (asN N tm sd) := by rw [fA_m hf2 (by decide) rfl]; exact hA
  obtain ⟨hbf1, hbf2, hbf3, hbf4, hbf5, hbf6, hbf7⟩ := hW.f
  have hln9 := hW.len
  have hR32 := rtS_len hW
  have h162 : fdB M2 B 16 = some (.int (nI (bkN (asN N tm sd)))) := by rw [fdB_of hO2_, List.getElem?_set_self (by rw [hF.1]; decide), (hs2 hW).1]
  refine hz_topi (pc := 476) (fun y1 ey1 => ?_)
  refine hz_istore (pc := 476) (i := 11) (lo2 := [(11, .int y1), (0, .ref B)]) (hz_dec kX12_assemble 258 rfl) (by decide) rfl ?_
  refine hz_aloadn (pc := 478) 1 (hz_dec kX12_assemble 259 rfl) rfl ?_
  refine hz_aloadn (pc := 479) 1 (hz_dec kX12_assemble 260 rfl) rfl ?_
  refine hz_get (pc := 480) (v := .ref (B + 80)) (hz_dec kX12_assemble 261 rfl) fo_X12_261 hO2 h8 (by omega) (hF2.2 94 (by decide) (by decide)) ?_
  refine hz_callV (pc := 483) (a := B) (As := [.ref (B + 80)]) (st := []) (hz_dec kX12_assemble 262 rfl) co_X12_441 im_X12_findRoot se_X12_findRoot rfl hO2 h8 (by omega) (c_findRoot hk2 hE2.a80 (by omega) (by omega) (ne_off (by decide)) (by decide) h142 hbf5 (st := bkS (asN N tm sd)) (fun j hj => by rw [(hs2 hW).2 j hj, hst0]) (T := bkT (asN N tm sd)) (fun j hj => ⟨by have q := hW.A hA2 hj; rw [Nat.zero_add] at q; exact q, (hW.t hj).1, by have q := (hW.t hj).2.2.2.1; omega⟩) hbf4 hE2.s h162 hE2.a15) rfl (by decide) ⟨Nat.le_refl _, Nat.le_refl _⟩ (Nat.le_of_ble_eq_true rfl) rfl (fun r9 z9 M3 hp9 => ?_)
  obtain ⟨rfl, rfl, hf3, hs3, ⟨g15, h15⟩, dg3, hd3, hdA⟩ := hp9
  have hE3_ : mdE M3 B := hE2.gen hf3 (A := [3, 4, 5, 6, 7, 8, 9]) (E := [15]) rfl hs3.sho (sho_c (shoA (by decide) h15) sho_n)
  have hX3 : raI M1 M3 B ((asN N tm sd).length) (hoE H) := ⟨hm2.tr (hf3.mono rfl rfl), hE3_, (hf3.2.2 95 rfl).trans h952, (hf3.2.2 103 rfl).trans h1032⟩
  obtain ⟨hm3, hE3, h953, h1033⟩ := id hX3
  have hk3 : md_k B M3 z := hR1.1.mf hm3 rfl rfl
  obtain ⟨⟨fs3, hO3, hF3⟩, -, -, h83, hz3⟩ := id hk3
  have g953 : fs3[95]? = some (.int (nI ((asN N tm sd).length))) := (fdB_of hO3 95).symm.trans h953
  have g1033 : fs3[103]? = some (.int (hoE H)) := (fdB_of hO3 103).symm.trans h1033
  have hA3 : isA (fA M3 B 80) 0 (asN N tm sd) := by rw [fA_m hf3 (by decide) rfl]; exact hA2
  refine hz_aloadn (pc := 486) 1 (hz_dec kX12_assemble 263 rfl) rfl ?_
  refine hz_aloadn (pc := 487) 1 (hz_dec kX12_assemble 264 rfl) rfl ?_
  refine hz_get (pc := 488) (v := .ref (B + 80)) (hz_dec kX12_assemble 265 rfl) fo_X12_261 hO3 h8 (by omega) (hF3.2 94 (by decide) (by decide)) ?_
  refine hz_bipush (pc := 491) (v := nI 32) (hz_dec kX12_assemble 266 rfl) (by decide) ?_
  refine hz_bytes hd3 (by omega) (by omega) (fun hbd3 => ?_)
  refine hz_callV (pc := 493) (a := B) (As := [.ref (B + 80), .int (nI 32)]) (st := []) (hz_dec kX12_assemble 267 rfl) co_X12_415 im_X12_keepDigest se_X12_keepDigest rfl hO3 h8 (by omega) (c_keepD (at_ := 32) hO3 hF3 h83 hz3 hd3 hbd3 hE3.a80 (by omega) (by omega) (by decide) (by decide) (by omega)) rfl (by decide) ⟨Nat.le_refl _, Nat.le_refl _⟩ (Nat.le_of_ble_eq_true rfl) rfl (fun r9 z9 M4 hp9 => ?_)
  obtain ⟨rfl, rfl, f4, u4, w4, rfl⟩ := hp9
  have hX4 : raI M1 (va_up M3 (B + 80) (.inl (1, 4000, .inl (f4)))) B ((asN N tm sd).length) (hoE H) := ⟨hm3.tr ((mfr.rf (ks := [16, 95, 103]) (os := [3, 4, 5, 6, 7, 8, 9, 10, 11, 12, 13, 14, 15, 42, 80, 86, 87]) hm3.2.1).upA (o := 80) rfl (by decide)), (hE3.upA (k := 80) (t := 1) (n := 4000) (by decide)), (fdB_of (hz_mne hO3 (by omega)) 95).trans g953, (fdB_of (hz_mne hO3 (by omega)) 103).trans g1033⟩
  have hR4 : hmR (va_up M3 (B + 80) (.inl (1, 4000, .inl (f4)))) z B (hot H (rpS (asN N tm sd)) (hoE H)) := hR1.ta hX4.1 hX4.2.1 (by rw [fA_of (va_up_self _ _ _)]; exact rp_A hA3 hdA hR32 u4 w4) (by rw [rpS_len]; exact hX4.2.2.1) hX4.2.2.2
  refine hz_aloadn (pc := 496) 1 (hz_dec kX12_assemble 268 rfl) rfl ?_
  refine hz_get (pc := 497) (v := .int (nI ((asN N tm sd).length))) (hz_dec kX12_assemble 269 rfl) fo_X12_679 (hz_mne hO3 (by omega)) h8 (by omega) g953 ?_
  exact hz_iret (pc := 500) (hz_dec kX12_assemble 270 rfl) rfl ⟨rfl, rfl, hf0.tr (hX4.1.S rfl), hR4⟩
set_option maxHeartbeats 4000000 in
set_option maxRecDepth 100000 in
theorem c_rs_i {κ : hz_C} {z B : Nat} {M0 M1 : hz_M} {H : ho_H} (hf0 : frM B M0 M1) (hR1 : hmR M1 z B H) (hnn : (hoN H).length ≤ 6) {v : Nat} (hv : v < (hoN H).length) {N : nd_N} (hN : ndL (hoN H) v = N) (hup : N.2.1 = true) (hI : ksI N.1) {sd : Int64} {tm : Int32} {i : Nat} (hi0 : i < cgN (ksP N.1)) {g0 : Nat → Int32} (K : ∀ M, raI M1 M B (103 + (cgX (ksP N.1) i).length) (hoE H) → (∀ i, i < cgN (ksP N.1) → fA M B 87 i = nI (cgK (poV (ksP N.1)) (ksP N.1).length i)) → (∀ q, q < 103 + (cgX (ksP N.1) i).length → fA M B 80 q = g0 q) → (∀ j, j < (poL (ksP N.1) (cgK (poV (ksP N.1)) (ksP N.1).length i)).length → fA M B 80 (103 + (cgX (ksP N.1) i).length + j) = lf (poL (ksP N.1) (cgK (poV (ksP N.1)) (ksP N.1).length i)) j) → hz_W κ xX12_assemble 8 0 0 (fun r z2 M3 => some (.int (nI (asN N tm sd).length)) = r ∧ z = z2 ∧ frM B M0 M3 ∧ hmR M3 z B (hot H (rpS (asN N tm sd)) (hoE H))) 0 0 441 [(12, .int (nI (16 * v + cgK (poV (ksP N.1)) (ksP N.1).length i))), (11, .int (nI i)), (7, .int (nI (cgN (ksP N.1)))), (0, .ref B), (1, .int (nI v))] [] z M) : ∀ n x M, n = (poL (ksP N.1) (cgK (poV (ksP N.1)) (ksP N.1).length i)).length - x → x ≤ (poL (ksP N.1) (cgK (poV (ksP N.1)) (ksP N.1).length i)).length → raI M1 M B (103 + (cgX (ksP N.1) i).length) (hoE H) → (∀ i, i < cgN (ksP N.1) → fA M B 87 i = nI (cgK (poV (ksP N.1)) (ksP N.1).length i)) → (∀ q, q < 103 + (cgX (ksP N.1) i).length → fA M B 80 q = g0 q) → (∀ j, j < x → fA M B 80 (103 + (cgX (ksP N.1) i).length + j) = lf (poL (ksP N.1) (cgK (poV (ksP N.1)) (ksP N.1).length i)) j) → hz_W κ xX12_assemble 8 0 0 (fun r z2 M3 => some (.int (nI (asN N tm sd).length)) = r ∧ z = z2 ∧ frM B M0 M3 ∧ hmR M3 z B (hot H (rpS (asN N tm sd)) (hoE H))) 0 0 397 [(13, .int (nI x)), (12, .int (nI (16 * v + cgK (poV (ksP N.1)) (ksP N.1).length i))), (11, .int (nI i)), (7, .int (nI (cgN (ksP N.1)))), (0, .ref B), (1, .int (nI v))] [] z M := by
  intro n
  induction n using Nat.strongRecOn with
  | ind n ih =>
  intro x M hn hx hX hpk ho hs
  obtain ⟨hm, hE, h95, h103⟩ := id hX
  have hk : md_k B M z := hR1.1.mf hm rfl rfl
  obtain ⟨⟨fs, hO, hF⟩, -, -, h8, hz⟩ := id hk
  have g95 : fs[95]? = some (.int (nI (103 + (cgX (ksP N.1) i).length))) := (fdB_of hO 95).symm.trans h95
  have g103 : fs[103]? = some (.int (hoE H)) := (fdB_of hO 103).symm.trans h103
  have h0 : mdN M1 B v N := by have q := hR1.2.2.2.1 v hv; rw [hN] at q; exact q
  have hv6 : v < 6 := by omega
  have h01 : mnS M1 B v 1 N.1 (pvI (ksF N.1)) (ksP N.1) := by have q := h0.1; rw [hup] at q; exact q
  obtain ⟨p1, p2, p3, p4, ⟨p5a, p5b, p5c⟩, p6, p7, p9⟩ := id h01
  obtain ⟨b1, b2, b3, b4, b5, b6, b7, b8⟩ := id (hI.1.p hI.2.1)
  have hpw := hI.2.2.2.1
  have hp16 := hpw.1
  have hb5 := hI.2.1
  have hht := b3.ht (k := ksT N.1) (by omega)
  have hn7 : cgN (ksP N.1) ≤ 7 := Nat.min_le_left _ _
  have hnl : cgN (ksP N.1) ≤ (ksP N.1).length := Nat.min_le_right _ _
  have hxl := cgX_len hpw (cgN (ksP N.1)) hnl
  have hTl : (asN N tm sd).length = 103 + (cgX (ksP N.1) (cgN (ksP N.1))).length := asT_len _ _ _ _ _ _ _ _
  have hck := (cg_k (fee := poV (ksP N.1)) (show i < (ksP N.1).length by omega)).2.1
  have hxi := cgX_len hpw i (by omega)
  have htl := (txW_len (hpw.2 _ hck).1).2
  obtain ⟨q1, q2, q3, q4⟩ := (p6.mf hm rfl).2 (cgK (poV (ksP N.1)) (ksP N.1).length i) hck
  refine hz_bytes hE.a54 (by omega) (by omega) (fun hby => ?_)
  refine hz_iload (pc := 397) 0 (hz_dec kX12_assemble 217 rfl) rfl ?_
  refine hz_aloadn (pc := 399) 4 (hz_dec kX12_assemble 218 rfl) rfl ?_
  refine hz_get (pc := 400) (v := .ref (B + 55)) (hz_dec kX12_assemble 219 rfl) fo_X12_184 hO h8 (by omega) (hF.2 64 (by decide) (by decide)) ?_
  refine hz_iload (pc := 403) 1 (hz_dec kX12_assemble 220 rfl) rfl ?_
  refine hz_iald (pc := 405) (j := 16 * v + cgK (poV (ksP N.1)) (ksP N.1).length i) (hz_dec kX12_assemble 221 rfl) hE.a55 (by omega) (by omega) rfl (by omega) (by decide) ?_
  refine hz_eqi (pc := 406) q1 ?_
  refine hz_n_ge (pc := 406) (tgt := 441) (hz_dec kX12_assemble 222 rfl) (by decide) (by omega) (by omega) (fun h1 => ?_) (fun h1 => ?_)
  · skip
    have e : x = (poL (ksP N.1) (cgK (poV (ksP N.1)) (ksP N.1).length i)).length := by omega
    subst e
    refine hz_pick (pc := 441) [1, 2, 3, 4, 5] rfl ?_
    exact K M hX hpk ho hs
  · skip
    refine hz_aloadn (pc := 409) 4 (hz_dec kX12_assemble 223 rfl) rfl ?_
    refine hz_get (pc := 410) (v := .ref (B + 80)) (hz_dec kX12_assemble 224 rfl) fo_X12_261 hO h8 (by omega) (hF.2 94 (by decide) (by decide)) ?_
    refine hz_aloadn (pc := 413) 4 (hz_dec kX12_assemble 225 rfl) rfl ?_
    refine hz_get (pc := 414) (v := .int (nI (103 + (cgX (ksP N.1) i).length))) (hz_dec kX12_assemble 226 rfl) fo_X12_679 hO h8 (by omega) g95 ?_
    refine hz_iload (pc := 417) 0 (hz_dec kX12_assemble 227 rfl) rfl ?_
    refine hz_addN (pc := 419) (hz_dec kX12_assemble 228 rfl) ?_
    refine hz_aloadn (pc := 420) 4 (hz_dec kX12_assemble 229 rfl) rfl ?_
    refine hz_get (pc := 421) (v := .ref (B + 54)) (hz_dec kX12_assemble 230 rfl) fo_X12_181 hO h8 (by omega) (hF.2 63 (by decide) (by decide)) ?_
    refine hz_sipush (pc := 424) (v := nI 360) (hz_dec kX12_assemble 231 rfl) (by decide) ?_
    refine hz_iload (pc := 427) 1 (hz_dec kX12_assemble 232 rfl) rfl ?_
    refine hz_mulN (pc := 429) (hz_dec kX12_assemble 233 rfl) ?_
    refine hz_iload (pc := 430) 0 (hz_dec kX12_assemble 234 rfl) rfl ?_
    refine hz_addN (pc := 432) (hz_dec kX12_assemble 235 rfl) ?_
    refine hz_bald (pc := 433) (j := (360 * (16 * v + cgK (poV (ksP N.1)) (ksP N.1).length i)) + x) (hz_dec kX12_assemble 236 rfl) hE.a54 (by omega) (by omega) rfl (by omega) (by decide) ?_
    refine hz_bast (pc := 434) (j := (103 + (cgX (ksP N.1) i).length) + x) (hz_dec kX12_assemble 237 rfl) hE.a80 (by omega) (by omega) rfl (by omega) (by decide) ?_
    have hX2 : raI M1 (va_up M (B + 80) (.inl (1, 4000, .inl (upd (fA M B 80) ((103 + (cgX (ksP N.1) i).length) + x) (((fA M B 54) ((360 * (16 * v + cgK (poV (ksP N.1)) (ksP N.1).length i)) + x)).toInt8.toInt32))))) B (103 + (cgX (ksP N.1) i).length) (hoE H) := ⟨hm.tr ((mfr.rf (ks := [16, 95, 103]) (os := [3, 4, 5, 6, 7, 8, 9, 10, 11, 12, 13, 14, 15, 42, 80, 86, 87]) hm.2.1).upA (o := 80) rfl (by decide)), (hE.upA (k := 80) (t := 1) (n := 4000) (by decide)), (fdB_of (hz_mne hO (by omega)) 95).trans g95, (fdB_of (hz_mne hO (by omega)) 103).trans g103⟩
    refine hz_incN (pc := 435) (i := 13) (lo2 := [(13, .int (nI (x + 1))), (12, .int (nI (16 * v + cgK (poV (ksP N.1)) (ksP N.1).length i))), (11, .int (nI i)), (7, .int (nI (cgN (ksP N.1)))), (0, .ref B), (1, .int (nI v))]) 0 (hz_dec kX12_assemble 238 rfl) rfl (by decide) rfl ?_
    refine hz_goto (pc := 438) (tgt := 397) (hz_dec kX12_assemble 239 rfl) (by decide) ?_
    refine hz_pick (pc := 397) [0, 1, 2, 3, 4, 5] rfl ?_
    refine ih ((poL (ksP N.1) (cgK (poV (ksP N.1)) (ksP N.1).length i)).length - (x + 1)) (by omega) (x + 1) _ rfl (by omega) hX2 (fun k hk => (congrFun (fA_c (va_up_ne _ _ (by omega))) k).trans (hpk k hk)) ?_ ?_
    · rw [fA_of (va_up_self _ _ _)]; intro q hq; rw [upd_o (by omega)]; exact ho q hq
    · rw [fA_of (va_up_self _ _ _)]; intro j hj
      rcases (show j = x ∨ j < x by omega) with c | c
      · rw [c, upd_s, hby _ (by omega)]; exact q4 x h1
      · rw [upd_o (by omega)]; exact hs j c
set_option maxHeartbeats 4000000 in
set_option maxRecDepth 100000 in
theorem c_rs_o {κ : hz_C} {z B : Nat} {M0 M1 : hz_M} {H : ho_H} (hf0 : frM B M0 M1) (hR1 : hmR M1 z B H) (hnn : (hoN H).length ≤ 6) {v : Nat} (hv : v < (hoN H).length) {N : nd_N} (hN : ndL (hoN H) v = N) (hup : N.2.1 = true) (hI : ksI N.1) {sd : Int64} {tm : Int32} (hW : blW (asN N tm sd)) : ∀ n i M, n = cgN (ksP N.1) - i → i ≤ cgN (ksP N.1) → raI M1 M B (103 + (cgX (ksP N.1) i).length) (hoE H) → (∀ i, i < cgN (ksP N.1) → fA M B 87 i = nI (cgK (poV (ksP N.1)) (ksP N.1).length i)) → (∀ j, j < 103 → fA M B 80 j = asH (haS (bBy (ksB N.1) (ksT N.1))) tm (dueE (enB (ksB N.1)) (ksT N.1)) (cgN (ksP N.1)) (eH (enB (ksB N.1)) (ksT N.1) + 1) ((nI (subS (eH (enB (ksB N.1)) (ksT N.1) + 1))).toInt64 + cgF (poV (ksP N.1)) (ksP N.1).length (cgN (ksP N.1))) (ky_a sd) j) → isA (fA M B 80) 103 (cgX (ksP N.1) i) → hz_W κ xX12_assemble 8 0 0 (fun r z2 M3 => some (.int (nI (asN N tm sd).length)) = r ∧ z = z2 ∧ frM B M0 M3 ∧ hmR M3 z B (hot H (rpS (asN N tm sd)) (hoE H))) 0 0 373 [(11, .int (nI i)), (7, .int (nI (cgN (ksP N.1)))), (0, .ref B), (1, .int (nI v))] [] z M := by
  intro n
  induction n using Nat.strongRecOn with
  | ind n ih =>
  intro i M hn hi hX hpk hh hx
  obtain ⟨hm, hE, h95, h103⟩ := id hX
  have hk : md_k B M z := hR1.1.mf hm rfl rfl
  obtain ⟨⟨fs, hO, hF⟩, -, -, h8, hz⟩ := id hk
  have g95 : fs[95]? = some (.int (nI (103 + (cgX (ksP N.1) i).length))) := (fdB_of hO 95).symm.trans h95
  have g103 : fs[103]? = some (.int (hoE H)) := (fdB_of hO 103).symm.trans h103
  have h0 : mdN M1 B v N := by have q := hR1.2.2.2.1 v hv; rw [hN] at q; exact q
  have hv6 : v < 6 := by omega
  have h01 : mnS M1 B v 1 N.1 (pvI (ksF N.1)) (ksP N.1) := by have q := h0.1; rw [hup] at q; exact q
  obtain ⟨p1, p2, p3, p4, ⟨p5a, p5b, p5c⟩, p6, p7, p9⟩ := id h01
  obtain ⟨b1, b2, b3, b4, b5, b6, b7, b8⟩ := id (hI.1.p hI.2.1)
  have hpw := hI.2.2.2.1
  have hp16 := hpw.1
  have hb5 := hI.2.1
  have hht := b3.ht (k := ksT N.1) (by omega)
  have hn7 : cgN (ksP N.1) ≤ 7 := Nat.min_le_left _ _
  have hnl : cgN (ksP N.1) ≤ (ksP N.1).length := Nat.min_le_right _ _
  have hxl := cgX_len hpw (cgN (ksP N.1)) hnl
  have hTl : (asN N tm sd).length = 103 + (cgX (ksP N.1) (cgN (ksP N.1))).length := asT_len _ _ _ _ _ _ _ _
  refine hz_iload (pc := 373) 0 (hz_dec kX12_assemble 203 rfl) rfl ?_
  refine hz_iload (pc := 375) 1 (hz_dec kX12_assemble 204 rfl) rfl ?_
  refine hz_n_ge (pc := 377) (tgt := 463) (hz_dec kX12_assemble 205 rfl) (by decide) (by omega) (by omega) (fun h1 => ?_) (fun h1 => ?_)
  · skip
    have e : i = cgN (ksP N.1) := by omega
    subst e
    have hA : isA (fA M B 80) 0 (asN N tm sd) := by
      intro j hj
      rw [hTl] at hj
      rw [Nat.zero_add]
      rcases (show j < 103 ∨ 103 ≤ j by omega) with c | c
      · rw [hh j c]; exact (asT_h c).symm
      · have r1 := hx (j - 103) (by omega)
        have r2 := asT_x (hh := (haS (bBy (ksB N.1) (ksT N.1)))) (tm := tm) (bits := dueE (enB (ksB N.1)) (ksT N.1)) (n := cgN (ksP N.1)) (ht := eH (enB (ksB N.1)) (ksT N.1) + 1) (am := ((nI (subS (eH (enB (ksB N.1)) (ksT N.1) + 1))).toInt64 + cgF (poV (ksP N.1)) (ksP N.1).length (cgN (ksP N.1)))) (ad := ky_a sd) (po := (ksP N.1)) (j - 103) (by omega)
        rw [show 103 + (j - 103) = j by omega] at r1 r2
        exact r1.trans r2.symm
    refine hz_pick (pc := 463) [2] rfl ?_
    exact c_rs_f hf0 hR1 hnn hv hN hup hI hW (by rw [hTl]; exact hX) hA
  · skip
    refine hz_bipush (pc := 380) (v := nI 16) (hz_dec kX12_assemble 206 rfl) (by decide) ?_
    refine hz_iloadn (pc := 382) 3 (hz_dec kX12_assemble 207 rfl) rfl ?_
    refine hz_mulN (pc := 383) (hz_dec kX12_assemble 208 rfl) ?_
    refine hz_aloadn (pc := 384) 2 (hz_dec kX12_assemble 209 rfl) rfl ?_
    refine hz_get (pc := 385) (v := .ref (B + 87)) (hz_dec kX12_assemble 210 rfl) fo_X12_286 hO h8 (by omega) (hF.2 105 (by decide) (by decide)) ?_
    refine hz_iload (pc := 388) 0 (hz_dec kX12_assemble 211 rfl) rfl ?_
    refine hz_iald (pc := 390) (j := i) (hz_dec kX12_assemble 212 rfl) hE.a87 (by omega) (by omega) rfl (by omega) (by decide) ?_
    refine hz_eqi (pc := 391) (hpk i h1) ?_
    refine hz_addN (pc := 391) (hz_dec kX12_assemble 213 rfl) ?_
    refine hz_istore (pc := 392) (i := 12) (lo2 := [(12, .int (nI ((16 * v) + (cgK (poV (ksP N.1)) (ksP N.1).length i)))), (11, .int (nI i)), (7, .int (nI (cgN (ksP N.1)))), (0, .ref B), (1, .int (nI v))]) (hz_dec kX12_assemble 214 rfl) (by decide) rfl ?_
    refine hz_iconst (pc := 394) (v := nI 0) (hz_dec kX12_assemble 215 rfl) (by decide) ?_
    refine hz_istore (pc := 395) (i := 13) (lo2 := [(13, .int (nI 0)), (12, .int (nI ((16 * v) + (cgK (poV (ksP N.1)) (ksP N.1).length i)))), (11, .int (nI i)), (7, .int (nI (cgN (ksP N.1)))), (0, .ref B), (1, .int (nI v))]) (hz_dec kX12_assemble 216 rfl) (by decide) rfl ?_
    refine hz_pick (pc := 397) [0, 1, 2, 3, 4, 5] rfl ?_
    have hck := (cg_k (fee := poV (ksP N.1)) (show i < (ksP N.1).length by omega)).2.1
    have hxi := cgX_len hpw i (by omega)
    have htl := (txW_len (hpw.2 _ hck).1).2
    refine c_rs_i hf0 hR1 hnn hv hN hup hI h1 (g0 := fA M B 80) (fun M2 hX2 hpk2 ho2 hs2 => ?_) (poL (ksP N.1) (cgK (poV (ksP N.1)) (ksP N.1).length i)).length 0 M rfl (by omega) hX hpk (fun _ _ => rfl) (fun j hj => absurd hj (by omega))
    obtain ⟨hm2, hE2, h952, h1032⟩ := id hX2
    have hk2 : md_k B M2 z := hR1.1.mf hm2 rfl rfl
    obtain ⟨⟨fs2, hO2, hF2⟩, -, -, h82, hz2⟩ := id hk2
    have g952 : fs2[95]? = some (.int (nI (103 + (cgX (ksP N.1) i).length))) := (fdB_of hO2 95).symm.trans h952
    have g1032 : fs2[103]? = some (.int (hoE H)) := (fdB_of hO2 103).symm.trans h1032
    obtain ⟨q1, q2, q3, q4⟩ := (p6.mf hm2 rfl).2 (cgK (poV (ksP N.1)) (ksP N.1).length i) hck
    refine hz_aloadn (pc := 441) 3 (hz_dec kX12_assemble 240 rfl) rfl ?_
    refine hz_dup (pc := 442) (hz_dec kX12_assemble 241 rfl) rfl ?_
    refine hz_get (pc := 443) (v := .int (nI (103 + (cgX (ksP N.1) i).length))) (hz_dec kX12_assemble 242 rfl) fo_X12_679 hO2 h8 (by omega) g952 ?_
    refine hz_aloadn (pc := 446) 3 (hz_dec kX12_assemble 243 rfl) rfl ?_
    refine hz_get (pc := 447) (v := .ref (B + 55)) (hz_dec kX12_assemble 244 rfl) fo_X12_184 hO2 h8 (by omega) (hF2.2 64 (by decide) (by decide)) ?_
    refine hz_iload (pc := 450) 0 (hz_dec kX12_assemble 245 rfl) rfl ?_
    refine hz_iald (pc := 452) (j := 16 * v + cgK (poV (ksP N.1)) (ksP N.1).length i) (hz_dec kX12_assemble 246 rfl) hE2.a55 (by omega) (by omega) rfl (by omega) (by decide) ?_
    refine hz_eqi (pc := 453) q1 ?_
    refine hz_addN (pc := 453) (hz_dec kX12_assemble 247 rfl) ?_
    refine hz_puti (pc := 454) (hz_dec kX12_assemble 248 rfl) fo_X12_679 ft_X12_95 hO2 h8 (by omega) (by rw [hF2.1]; decide) ?_
    have hX3 : raI M1 (va_up M2 B (.inr (12, (List.set fs2 95 (.int (nI ((103 + (cgX (ksP N.1) i).length) + ((poL (ksP N.1) (cgK (poV (ksP N.1)) (ksP N.1).length i)).length)))))))) B (103 + (cgX (ksP N.1) i).length + (poL (ksP N.1) (cgK (poV (ksP N.1)) (ksP N.1).length i)).length) (hoE H) := ⟨hm2.tr ((mfr.rf (ks := [16, 95, 103]) (os := [3, 4, 5, 6, 7, 8, 9, 10, 11, 12, 13, 14, 15, 42, 80, 86, 87]) hm2.2.1).upO (k := 95) hO2 hF2 rfl rfl), (hE2.upO), (fdB_of (va_up_self _ _ _) 95).trans (List.getElem?_set_self (by rw [hF2.1]; decide)), (fdB_of (va_up_self _ _ _) 103).trans ((List.getElem?_set_ne (by decide)).trans g1032)⟩
    have hlx : 103 + (cgX (ksP N.1) (i + 1)).length = 103 + (cgX (ksP N.1) i).length + (poL (ksP N.1) (cgK (poV (ksP N.1)) (ksP N.1).length i)).length := by show 103 + (cgX (ksP N.1) i ++ poL (ksP N.1) (cgK (poV (ksP N.1)) (ksP N.1).length i)).length = _; rw [List.length_append]; omega
    have e80 : fA (va_up M2 B (.inr (12, (List.set fs2 95 (.int (nI ((103 + (cgX (ksP N.1) i).length) + ((poL (ksP N.1) (cgK (poV (ksP N.1)) (ksP N.1).length i)).length)))))))) B 80 = fA M2 B 80 := fA_c (va_up_ne _ _ (by omega))
    have e87 : fA (va_up M2 B (.inr (12, (List.set fs2 95 (.int (nI ((103 + (cgX (ksP N.1) i).length) + ((poL (ksP N.1) (cgK (poV (ksP N.1)) (ksP N.1).length i)).length)))))))) B 87 = fA M2 B 87 := fA_c (va_up_ne _ _ (by omega))
    refine hz_incN (pc := 457) (i := 11) (lo2 := [(11, .int (nI (i + 1))), (12, .int (nI (16 * v + cgK (poV (ksP N.1)) (ksP N.1).length i))), (7, .int (nI (cgN (ksP N.1)))), (0, .ref B), (1, .int (nI v))]) 1 (hz_dec kX12_assemble 249 rfl) rfl (by decide) rfl ?_
    refine hz_goto (pc := 460) (tgt := 373) (hz_dec kX12_assemble 250 rfl) (by decide) ?_
    refine hz_pick (pc := 373) [0, 2, 3, 4] rfl ?_
    refine ih (cgN (ksP N.1) - (i + 1)) (by omega) (i + 1) _ rfl (by omega) (by rw [hlx]; exact hX3) (fun k hk => by rw [e87]; exact hpk2 k hk) (fun j hj => by rw [e80, ho2 j (by omega)]; exact hh j hj) ?_
    rw [e80]
    show isA _ 103 (cgX (ksP N.1) i ++ poL (ksP N.1) (cgK (poV (ksP N.1)) (ksP N.1).length i))
    exact isA_app (fun j hj => (ho2 _ (by omega)).trans (hx j hj)) hs2
