/-! sign: the reference, the bytes -/
set_option maxHeartbeats 4000000 in
set_option maxRecDepth 100000 in
theorem c_sr_h {κ : hz_C} {z B : Nat} {M0 M1 : hz_M} {H : ho_H} (hf0 : frM B M0 M1) (hR1 : hmR M1 z B H) {h : Int32} {M : hz_M} {g : Nat → Int32} (hI : sgI M1 M B (sgL (hoI H) (hoU H)) (hoE H)) (hg : fA M B 80 = g) (hw : sgW (hoI H) (hoU H) h g (sgL (hoI H) (hoU H))) : hz_W κ xX12_sign 6 0 0 (fun r z2 M3 => some (.int (nI (sgL (hoI H) (hoU H)))) = r ∧ z = z2 ∧ frM B M0 M3 ∧ hmR M3 z B (hot H (sgT (hoI H) (hoU H) h) (hoE H))) 0 0 230 [(0, .ref B)] [] z M := by
  obtain ⟨hm, hE, h95, h103⟩ := id hI
  have a7 := (hR1.2.2.2.2.2.2.1).mf hm rfl rfl rfl rfl rfl rfl rfl
  have hk : md_k B M z := hR1.1.mf hm rfl rfl
  obtain ⟨⟨fs, hO, hF⟩, -, -, h8, hz⟩ := id hk
  have g95 : fs[95]? = some (.int (nI (sgL (hoI H) (hoU H)))) := (fdB_of hO 95).symm.trans h95
  have g96 : fs[96]? = some (.int (nI (hoI H).length)) := (fdB_of hO 96).symm.trans a7.1
  have g100 : fs[100]? = some (.int (nI (hoU H).length)) := (fdB_of hO 100).symm.trans a7.2.1
  have g103 : fs[103]? = some (.int (hoE H)) := (fdB_of hO 103).symm.trans h103
  obtain ⟨-, -, d2, d3, dX, oX⟩ := id a7
  have hsb := sgL_b d2 d3
  refine hz_aloadn (pc := 230) 0 (hz_dec kX12_sign 127 rfl) rfl ?_
  refine hz_aloadn (pc := 231) 0 (hz_dec kX12_sign 128 rfl) rfl ?_
  refine hz_get (pc := 232) (v := .ref (B + 80)) (hz_dec kX12_sign 129 rfl) fo_X12_261 hO h8 (by omega) (hF.2 94 (by decide) (by decide)) ?_
  refine hz_iconst (pc := 235) (v := nI 0) (hz_dec kX12_sign 130 rfl) (by decide) ?_
  refine hz_aloadn (pc := 236) 0 (hz_dec kX12_sign 131 rfl) rfl ?_
  refine hz_get (pc := 237) (v := .int (nI (sgL (hoI H) (hoU H)))) (hz_dec kX12_sign 132 rfl) fo_X12_679 hO h8 (by omega) g95 ?_
  refine hz_callV (pc := 240) (a := B) (As := [.ref (B + 80), .int (nI 0), .int (nI (sgL (hoI H) (hoU H)))]) (st := []) (hz_dec kX12_sign 133 rfl) co_X12_326 im_X12_hashOf se_X12_hashOf rfl hO h8 (by omega) (c_hashF hk hE.s (at_ := 0) (n := sgL (hoI H) (hoU H)) hE.a80 (by omega) (by omega) (by decide) (by omega)) rfl (by decide) ⟨Nat.le_refl _, Nat.le_refl _⟩ (Nat.le_of_ble_eq_true rfl) rfl (fun r9 z9 M2 hp9 => ?_)
  obtain ⟨rfl, rfl, hf2, hs2, dg, hdg, hdx⟩ := hp9
  have hm2_ : mfr B [] [3, 4, 5] M M2 := mfr.ofl hk.1 hf2 rfl
  have hE2_ : mdE M2 B := hE.hs hm2_ hs2 rfl
  have hI2 : sgI M1 M2 B (sgL (hoI H) (hoU H)) (hoE H) := ⟨hm.tr (hm2_.mono rfl rfl), hE2_, (hm2_.2.2 95 rfl).trans h95, (hm2_.2.2 103 rfl).trans h103⟩
  obtain ⟨hm2, hE2, h952, h1032⟩ := id hI2
  have a72 := (hR1.2.2.2.2.2.2.1).mf hm2 rfl rfl rfl rfl rfl rfl rfl
  have hk2 : md_k B M2 z := hR1.1.mf hm2 rfl rfl
  obtain ⟨⟨fs2, hO2, hF2⟩, -, -, h82, hz2⟩ := id hk2
  have g952 : fs2[95]? = some (.int (nI (sgL (hoI H) (hoU H)))) := (fdB_of hO2 95).symm.trans h952
  have g962 : fs2[96]? = some (.int (nI (hoI H).length)) := (fdB_of hO2 96).symm.trans a72.1
  have g1002 : fs2[100]? = some (.int (nI (hoU H).length)) := (fdB_of hO2 100).symm.trans a72.2.1
  have g1032 : fs2[103]? = some (.int (hoE H)) := (fdB_of hO2 103).symm.trans h1032
  obtain ⟨-, -, d22, d32, dX2, oX2⟩ := id a72
  have hsb2 := sgL_b d22 d32
  have eh : sh_h (fA M B 80) 0 (sgL (hoI H) (hoU H)) = sh_h (sgF (hoI H) (hoU H) h (fun _ _ => 0)) 0 (sgL (hoI H) (hoU H)) := sh_h_c (fun i hi => by rw [Nat.zero_add, hg, hw i hi])
  rw [eh] at hdx
  refine hz_aloadn (pc := 243) 0 (hz_dec kX12_sign 134 rfl) rfl ?_
  refine hz_callV (pc := 244) (a := B) (As := []) (st := []) (hz_dec kX12_sign 135 rfl) co_X12_509 im_X12_findDigits se_X12_findDigits rfl hO2 h8 (by omega) (c_findD hO2 hF2 h82 hz2 hdg hdx hE2.a9) rfl (by decide) ⟨Nat.le_refl _, Nat.le_refl _⟩ (Nat.le_of_ble_eq_true rfl) rfl (fun r9 z9 M3 hp9 => ?_)
  obtain ⟨rfl, rfl, q3, hq3, rfl⟩ := hp9
  have hI3 : sgI M1 (va_up M2 (B + 9) (.inl (0, 8, .inl (q3)))) B (sgL (hoI H) (hoU H)) (hoE H) := ⟨hm2.tr ((mfr.rf (ks := [95, 103]) (os := [3, 4, 5, 6, 7, 8, 9, 80]) hm2.2.1).upA (o := 9) rfl (by decide)), (hE2.upA (k := 9) (t := 0) (n := 8) (by decide)), (fdB_of (hz_mne hO2 (by omega)) 95).trans g952, (fdB_of (hz_mne hO2 (by omega)) 103).trans g1032⟩
  have e803 : fA (va_up M2 (B + 9) (.inl (0, 8, .inl (q3)))) B 80 = g := (fA_c (va_up_ne _ _ (by omega))).trans ((fA_c (hf2.at 80 rfl)).trans hg)
  have e93 : fA (va_up M2 (B + 9) (.inl (0, 8, .inl (q3)))) B 9 = q3 := fA_of (va_up_self _ _ _)
  have hU : sgU (hoI H) (hoU H) h g (sgL (hoI H) (hoU H)) := fun j hj _ => hw j hj
  refine hz_iconst (pc := 247) (v := nI 0) (hz_dec kX12_sign 136 rfl) (by decide) ?_
  refine hz_istoren (pc := 248) (i := 2) (lo2 := [(2, .int (nI 0)), (0, .ref B)]) (hz_dec kX12_sign 137 rfl) rfl (by decide) rfl ?_
  refine hz_pick (pc := 249) [0, 1] rfl ?_
  exact c_sr_s hf0 hR1 (hoI H).length 0 _ g rfl (by omega) hI3 e803 (sgV_0 hU) (fun j hj => by rw [e93]; exact hq3 j hj)
set_option maxHeartbeats 4000000 in
set_option maxRecDepth 100000 in
theorem c_sr_o {κ : hz_C} {z B : Nat} {M0 M1 : hz_M} {H : ho_H} (hf0 : frM B M0 M1) (hR1 : hmR M1 z B H) {h : Int32} : ∀ n i M g, n = (hoU H).length - i → i ≤ (hoU H).length → sgI M1 M B (2 + tx_oa (hoI H).length + 16 * i) (hoE H) → fA M B 80 = g → sgW (hoI H) (hoU H) h g (2 + tx_oa (hoI H).length + 16 * i) → hz_W κ xX12_sign 6 0 0 (fun r z2 M3 => some (.int (nI (sgL (hoI H) (hoU H)))) = r ∧ z = z2 ∧ frM B M0 M3 ∧ hmR M3 z B (hot H (sgT (hoI H) (hoU H) h) (hoE H))) 0 0 168 [(2, .int (nI i)), (0, .ref B)] [] z M := by
  intro n
  induction n using Nat.strongRecOn with
  | ind n ih =>
  intro i M g hk_ hi hI hg hw
  obtain ⟨hm, hE, h95, h103⟩ := id hI
  have a7 := (hR1.2.2.2.2.2.2.1).mf hm rfl rfl rfl rfl rfl rfl rfl
  have hk : md_k B M z := hR1.1.mf hm rfl rfl
  obtain ⟨⟨fs, hO, hF⟩, -, -, h8, hz⟩ := id hk
  have g95 : fs[95]? = some (.int (nI (2 + tx_oa (hoI H).length + 16 * i))) := (fdB_of hO 95).symm.trans h95
  have g96 : fs[96]? = some (.int (nI (hoI H).length)) := (fdB_of hO 96).symm.trans a7.1
  have g100 : fs[100]? = some (.int (nI (hoU H).length)) := (fdB_of hO 100).symm.trans a7.2.1
  have g103 : fs[103]? = some (.int (hoE H)) := (fdB_of hO 103).symm.trans h103
  obtain ⟨-, -, d2, d3, dX, oX⟩ := id a7
  have hsb := sgL_b d2 d3
  have hoa : tx_oa (hoI H).length ≤ 292 := by unfold tx_oa; split <;> omega
  refine hz_iloadn (pc := 168) 0 (hz_dec kX12_sign 95 rfl) rfl ?_
  refine hz_aloadn (pc := 169) 1 (hz_dec kX12_sign 96 rfl) rfl ?_
  refine hz_get (pc := 170) (v := .int (nI ((hoU H).length))) (hz_dec kX12_sign 97 rfl) fo_X12_685 hO h8 (by omega) g100 ?_
  refine hz_n_ge (pc := 173) (tgt := 230) (hz_dec kX12_sign 98 rfl) (by decide) (by omega) (by omega) (fun h1 => ?_) (fun h1 => ?_)
  · skip
    have e : i = (hoU H).length := by omega
    rw [e] at hw hI
    refine hz_pick (pc := 230) [1] rfl ?_
    exact c_sr_h hf0 hR1 hI hg hw
  · skip
    refine hz_aloadn (pc := 176) 1 (hz_dec kX12_sign 99 rfl) rfl ?_
    refine hz_get (pc := 177) (v := .ref (B + 80)) (hz_dec kX12_sign 100 rfl) fo_X12_261 hO h8 (by omega) (hF.2 94 (by decide) (by decide)) ?_
    refine hz_aloadn (pc := 180) 1 (hz_dec kX12_sign 101 rfl) rfl ?_
    refine hz_get (pc := 181) (v := .int (nI (2 + tx_oa (hoI H).length + 16 * i))) (hz_dec kX12_sign 102 rfl) fo_X12_679 hO h8 (by omega) g95 ?_
    refine hz_aloadn (pc := 184) 1 (hz_dec kX12_sign 103 rfl) rfl ?_
    refine hz_get (pc := 185) (v := .ref (B + 84)) (hz_dec kX12_sign 104 rfl) fo_X12_273 hO h8 (by omega) (hF.2 101 (by decide) (by decide)) ?_
    refine hz_iloadn (pc := 188) 0 (hz_dec kX12_sign 105 rfl) rfl ?_
    refine hz_lald (pc := 189) (j := i) (hz_dec kX12_sign 106 rfl) hE.a84 (by omega) (by omega) rfl (by omega) (by decide) ?_
    refine hz_eql (pc := 190) (oX i h1).1 ?_
    have e80c : M (B + 80) = .inl (1, 4000, .inl g) := by rw [← hg]; exact hE.a80
    refine hz_callS (pc := 190) (As := [.ref (B + 80), .int (nI (2 + tx_oa (hoI H).length + 16 * i)), .long ((doL (hoU H) i).1)]) (st := []) (hz_dec kX12_sign 107 rfl) co_X12_334 sc_X12_putLong (c_putLong (at_ := 2 + tx_oa (hoI H).length + 16 * i) (v := (doL (hoU H) i).1) e80c (by omega) (by omega) (by decide) (by omega)) rfl (by decide) ⟨Nat.le_refl _, Nat.le_refl _⟩ (Nat.le_of_ble_eq_true rfl) rfl (fun r9 z9 M9 hp9 => ?_)
    obtain ⟨rfl, rfl, g1, u1, v1, rfl⟩ := hp9
    refine hz_aloadn (pc := 193) 1 (hz_dec kX12_sign 108 rfl) rfl ?_
    refine hz_get (pc := 194) (v := .ref (B + 80)) (hz_dec kX12_sign 109 rfl) fo_X12_261 (hz_mne hO (by omega)) h8 (by omega) (hF.2 94 (by decide) (by decide)) ?_
    refine hz_aloadn (pc := 197) 1 (hz_dec kX12_sign 110 rfl) rfl ?_
    refine hz_get (pc := 198) (v := .int (nI (2 + tx_oa (hoI H).length + 16 * i))) (hz_dec kX12_sign 111 rfl) fo_X12_679 (hz_mne hO (by omega)) h8 (by omega) g95 ?_
    refine hz_bipush (pc := 201) (v := nI 8) (hz_dec kX12_sign 112 rfl) (by decide) ?_
    refine hz_addN (pc := 203) (hz_dec kX12_sign 113 rfl) ?_
    refine hz_aloadn (pc := 204) 1 (hz_dec kX12_sign 114 rfl) rfl ?_
    refine hz_get (pc := 205) (v := .ref (B + 85)) (hz_dec kX12_sign 115 rfl) fo_X12_276 (hz_mne hO (by omega)) h8 (by omega) (hF.2 102 (by decide) (by decide)) ?_
    refine hz_iloadn (pc := 208) 0 (hz_dec kX12_sign 116 rfl) rfl ?_
    refine hz_lald (pc := 209) (j := i) (hz_dec kX12_sign 117 rfl) (hz_mne hE.a85 (by omega)) (by omega) (by omega) rfl (by omega) (by decide) ?_
    refine hz_eql (pc := 210) (oX i h1).2 ?_
    refine hz_callS (pc := 210) (As := [.ref (B + 80), .int (nI ((2 + tx_oa (hoI H).length + 16 * i) + 8)), .long ((doL (hoU H) i).2)]) (st := []) (hz_dec kX12_sign 118 rfl) co_X12_334 sc_X12_putLong (c_putLong (at_ := 2 + tx_oa (hoI H).length + 16 * i + 8) (v := (doL (hoU H) i).2) (va_up_self _ _ _) (by omega) (by omega) (by decide) (by omega)) rfl (by decide) ⟨Nat.le_refl _, Nat.le_refl _⟩ (Nat.le_of_ble_eq_true rfl) rfl (fun r9 z9 M9 hp9 => ?_)
    obtain ⟨rfl, rfl, g2, u2, v2, rfl⟩ := hp9
    refine hz_mem (pc := 213) (M2 := (va_up M (B + 80) (.inl (1, 4000, .inl (g2))))) (bx_uu _ _ _ _) ?_
    refine hz_aloadn (pc := 213) 1 (hz_dec kX12_sign 119 rfl) rfl ?_
    refine hz_dup (pc := 214) (hz_dec kX12_sign 120 rfl) rfl ?_
    refine hz_get (pc := 215) (v := .int (nI (2 + tx_oa (hoI H).length + 16 * i))) (hz_dec kX12_sign 121 rfl) fo_X12_679 (hz_mne hO (by omega)) h8 (by omega) g95 ?_
    refine hz_bipush (pc := 218) (v := nI 16) (hz_dec kX12_sign 122 rfl) (by decide) ?_
    refine hz_addN (pc := 220) (hz_dec kX12_sign 123 rfl) ?_
    refine hz_puti (pc := 221) (hz_dec kX12_sign 124 rfl) fo_X12_679 ft_X12_95 (hz_mne hO (by omega)) h8 (by omega) (by rw [hF.1]; decide) ?_
    refine hz_incN (pc := 224) (i := 2) (lo2 := [(2, .int (nI (i + 1))), (0, .ref B)]) 0 (hz_dec kX12_sign 125 rfl) rfl (by decide) rfl ?_
    refine hz_goto (pc := 227) (tgt := 168) (hz_dec kX12_sign 126 rfl) (by decide) ?_
    have hI2 : sgI M1 (va_up (va_up M (B + 80) (.inl (1, 4000, .inl (g2)))) B (.inr (12, (List.set fs 95 (.int (nI ((2 + tx_oa (hoI H).length + 16 * i) + 16))))))) B (2 + tx_oa (hoI H).length + 16 * i + 16) (hoE H) := ⟨hm.tr (((mfr.rf (ks := [95, 103]) (os := [3, 4, 5, 6, 7, 8, 9, 80]) hm.2.1).upA (o := 80) rfl (by decide)).upO (k := 95) (hz_mne hO (by omega)) hF rfl rfl), ((hE.upA (k := 80) (t := 1) (n := 4000) (by decide)).upO), (fdB_of (va_up_self _ _ _) 95).trans (List.getElem?_set_self (by rw [hF.1]; decide)), (fdB_of (va_up_self _ _ _) 103).trans ((List.getElem?_set_ne (by decide)).trans g103)⟩
    have e802 : fA (va_up (va_up M (B + 80) (.inl (1, 4000, .inl (g2)))) B (.inr (12, (List.set fs 95 (.int (nI ((2 + tx_oa (hoI H).length + 16 * i) + 16))))))) B 80 = g2 := (fA_c (va_up_ne _ _ (by omega))).trans (fA_of (va_up_self _ _ _))
    have hw2 : sgW (hoI H) (hoU H) h g2 (2 + tx_oa (hoI H).length + 16 * (i + 1)) := sgW_ou hw (fun j hj => (v2 j (by omega)).trans (v1 j (by omega))) (fun r hr => (v2 _ (by omega)).trans (u1 r hr)) u2
    have hI2b : sgI M1 (va_up (va_up M (B + 80) (.inl (1, 4000, .inl (g2)))) B (.inr (12, (List.set fs 95 (.int (nI ((2 + tx_oa (hoI H).length + 16 * i) + 16))))))) B (2 + tx_oa (hoI H).length + 16 * (i + 1)) (hoE H) := by rw [show 2 + tx_oa (hoI H).length + 16 * (i + 1) = 2 + tx_oa (hoI H).length + 16 * i + 16 by omega]; exact hI2
    refine hz_pick (pc := 168) [0, 1] rfl ?_
    exact ih ((hoU H).length - (i + 1)) (by omega) (i + 1) _ g2 rfl (by omega) hI2b e802 hw2
set_option maxHeartbeats 4000000 in
set_option maxRecDepth 100000 in
theorem c_sr_z {κ : hz_C} {z B : Nat} {M0 M1 : hz_M} {H : ho_H} (hf0 : frM B M0 M1) (hR1 : hmR M1 z B H) {h : Int32} {i : Nat} (hi0 : i < (hoI H).length) {g0 : Nat → Int32} (K : ∀ M g, sgI M1 M B (2 + 73 * i) (hoE H) → fA M B 80 = g → (∀ x, x < 64 → g (2 + 73 * i + 9 + x) = 0) → (∀ q, q < 2 + 73 * i + 9 → g q = g0 q) → hz_W κ xX12_sign 6 0 0 (fun r z2 M3 => some (.int (nI (sgL (hoI H) (hoU H)))) = r ∧ z = z2 ∧ frM B M0 M3 ∧ hmR M3 z B (hot H (sgT (hoI H) (hoU H) h) (hoE H))) 0 0 149 [(2, .int (nI i)), (0, .ref B)] [] z M) : ∀ n x M g, n = 64 - x → x ≤ 64 → sgI M1 M B (2 + 73 * i) (hoE H) → fA M B 80 = g → (∀ y, y < x → g (2 + 73 * i + 9 + y) = 0) → (∀ q, q < 2 + 73 * i + 9 → g q = g0 q) → hz_W κ xX12_sign 6 0 0 (fun r z2 M3 => some (.int (nI (sgL (hoI H) (hoU H)))) = r ∧ z = z2 ∧ frM B M0 M3 ∧ hmR M3 z B (hot H (sgT (hoI H) (hoU H) h) (hoE H))) 0 0 122 [(3, .int (nI x)), (2, .int (nI i)), (0, .ref B)] [] z M := by
  intro n
  induction n using Nat.strongRecOn with
  | ind n ih =>
  intro x M g hk_ hx hI hg hs ho
  obtain ⟨hm, hE, h95, h103⟩ := id hI
  have a7 := (hR1.2.2.2.2.2.2.1).mf hm rfl rfl rfl rfl rfl rfl rfl
  have hk : md_k B M z := hR1.1.mf hm rfl rfl
  obtain ⟨⟨fs, hO, hF⟩, -, -, h8, hz⟩ := id hk
  have g95 : fs[95]? = some (.int (nI (2 + 73 * i))) := (fdB_of hO 95).symm.trans h95
  have g96 : fs[96]? = some (.int (nI (hoI H).length)) := (fdB_of hO 96).symm.trans a7.1
  have g100 : fs[100]? = some (.int (nI (hoU H).length)) := (fdB_of hO 100).symm.trans a7.2.1
  have g103 : fs[103]? = some (.int (hoE H)) := (fdB_of hO 103).symm.trans h103
  obtain ⟨-, -, d2, d3, dX, oX⟩ := id a7
  have hsb := sgL_b d2 d3
  refine hz_iloadn (pc := 122) 0 (hz_dec kX12_sign 70 rfl) rfl ?_
  refine hz_bipush (pc := 123) (v := nI 64) (hz_dec kX12_sign 71 rfl) (by decide) ?_
  refine hz_n_ge (pc := 125) (tgt := 149) (hz_dec kX12_sign 72 rfl) (by decide) (by omega) (by omega) (fun h1 => ?_) (fun h1 => ?_)
  · skip
    have e : x = 64 := by omega
    rw [e] at hs
    refine hz_pick (pc := 149) [1, 2] rfl ?_
    exact K M g hI hg hs ho
  · skip
    have e80c : M (B + 80) = .inl (1, 4000, .inl g) := by rw [← hg]; exact hE.a80
    refine hz_aloadn (pc := 128) 2 (hz_dec kX12_sign 73 rfl) rfl ?_
    refine hz_get (pc := 129) (v := .ref (B + 80)) (hz_dec kX12_sign 74 rfl) fo_X12_261 hO h8 (by omega) (hF.2 94 (by decide) (by decide)) ?_
    refine hz_aloadn (pc := 132) 2 (hz_dec kX12_sign 75 rfl) rfl ?_
    refine hz_get (pc := 133) (v := .int (nI (2 + 73 * i))) (hz_dec kX12_sign 76 rfl) fo_X12_679 hO h8 (by omega) g95 ?_
    refine hz_bipush (pc := 136) (v := nI 9) (hz_dec kX12_sign 77 rfl) (by decide) ?_
    refine hz_addN (pc := 138) (hz_dec kX12_sign 78 rfl) ?_
    refine hz_iloadn (pc := 139) 0 (hz_dec kX12_sign 79 rfl) rfl ?_
    refine hz_addN (pc := 140) (hz_dec kX12_sign 80 rfl) ?_
    refine hz_iconst (pc := 141) (v := nI 0) (hz_dec kX12_sign 81 rfl) (by decide) ?_
    refine hz_bast (pc := 142) (j := ((2 + 73 * i) + 9) + x) (hz_dec kX12_sign 82 rfl) e80c (by omega) (by omega) rfl (by omega) (by decide) ?_
    refine hz_mem (pc := 143) (M2 := (va_up M (B + 80) (.inl (1, 4000, .inl (upd g (2 + 73 * i + 9 + x) 0))))) rfl ?_
    have hI2 : sgI M1 (va_up M (B + 80) (.inl (1, 4000, .inl (upd g (2 + 73 * i + 9 + x) 0)))) B (2 + 73 * i) (hoE H) := ⟨hm.tr ((mfr.rf (ks := [95, 103]) (os := [3, 4, 5, 6, 7, 8, 9, 80]) hm.2.1).upA (o := 80) rfl (by decide)), (hE.upA (k := 80) (t := 1) (n := 4000) (by decide)), (fdB_of (hz_mne hO (by omega)) 95).trans g95, (fdB_of (hz_mne hO (by omega)) 103).trans g103⟩
    have e802 : fA (va_up M (B + 80) (.inl (1, 4000, .inl (upd g (2 + 73 * i + 9 + x) 0)))) B 80 = upd g (2 + 73 * i + 9 + x) 0 := fA_of (va_up_self _ _ _)
    refine hz_incN (pc := 143) (i := 3) (lo2 := [(3, .int (nI (x + 1))), (2, .int (nI i)), (0, .ref B)]) 0 (hz_dec kX12_sign 83 rfl) rfl (by decide) rfl ?_
    refine hz_goto (pc := 146) (tgt := 122) (hz_dec kX12_sign 84 rfl) (by decide) ?_
    refine hz_pick (pc := 122) [0, 1, 2] rfl ?_
    refine ih (64 - (x + 1)) (by omega) (x + 1) _ _ rfl (by omega) hI2 e802 (fun y hy => ?_) (fun q hq => (upd_o (by omega)).trans (ho q hq))
    rcases (show y = x ∨ y < x by omega) with c | c
    · rw [c]; exact upd_s
    · exact (upd_o (by omega)).trans (hs y c)
set_option maxHeartbeats 4000000 in
set_option maxRecDepth 100000 in
theorem c_sr_i {κ : hz_C} {z B : Nat} {M0 M1 : hz_M} {H : ho_H} (hf0 : frM B M0 M1) (hR1 : hmR M1 z B H) {h : Int32} (hl : ¬ (hoI H).length = 0) : ∀ n i M g, n = (hoI H).length - i → i ≤ (hoI H).length → sgI M1 M B (2 + 73 * i) (hoE H) → fA M B 80 = g → sgW (hoI H) (hoU H) h g (2 + 73 * i) → hz_W κ xX12_sign 6 0 0 (fun r z2 M3 => some (.int (nI (sgL (hoI H) (hoU H)))) = r ∧ z = z2 ∧ frM B M0 M3 ∧ hmR M3 z B (hot H (sgT (hoI H) (hoU H) h) (hoE H))) 0 0 76 [(2, .int (nI i)), (0, .ref B)] [] z M := by
  intro n
  induction n using Nat.strongRecOn with
  | ind n ih =>
  intro i M g hk_ hi hI hg hw
  obtain ⟨hm, hE, h95, h103⟩ := id hI
  have a7 := (hR1.2.2.2.2.2.2.1).mf hm rfl rfl rfl rfl rfl rfl rfl
  have hk : md_k B M z := hR1.1.mf hm rfl rfl
  obtain ⟨⟨fs, hO, hF⟩, -, -, h8, hz⟩ := id hk
  have g95 : fs[95]? = some (.int (nI (2 + 73 * i))) := (fdB_of hO 95).symm.trans h95
  have g96 : fs[96]? = some (.int (nI (hoI H).length)) := (fdB_of hO 96).symm.trans a7.1
  have g100 : fs[100]? = some (.int (nI (hoU H).length)) := (fdB_of hO 100).symm.trans a7.2.1
  have g103 : fs[103]? = some (.int (hoE H)) := (fdB_of hO 103).symm.trans h103
  obtain ⟨-, -, d2, d3, dX, oX⟩ := id a7
  have hsb := sgL_b d2 d3
  refine hz_iloadn (pc := 76) 0 (hz_dec kX12_sign 43 rfl) rfl ?_
  refine hz_aloadn (pc := 77) 1 (hz_dec kX12_sign 44 rfl) rfl ?_
  refine hz_get (pc := 78) (v := .int (nI ((hoI H).length))) (hz_dec kX12_sign 45 rfl) fo_X12_682 hO h8 (by omega) g96 ?_
  refine hz_n_ge (pc := 81) (tgt := 166) (hz_dec kX12_sign 46 rfl) (by decide) (by omega) (by omega) (fun h1 => ?_) (fun h1 => ?_)
  · skip
    have e : i = (hoI H).length := by omega
    rw [e] at hw hI
    refine hz_iconst (pc := 166) (v := nI 0) (hz_dec kX12_sign 93 rfl) (by decide) ?_
    refine hz_istoren (pc := 167) (i := 2) (lo2 := [(2, .int (nI 0)), (0, .ref B)]) (hz_dec kX12_sign 94 rfl) rfl (by decide) rfl ?_
    refine hz_pick (pc := 168) [0, 1] rfl ?_
    exact c_sr_o hf0 hR1 (hoU H).length 0 M g rfl (by omega) (by rw [oa_n hl]; exact hI) hg (by rw [oa_n hl]; exact hw)
  · skip
    refine hz_aloadn (pc := 84) 1 (hz_dec kX12_sign 47 rfl) rfl ?_
    refine hz_get (pc := 85) (v := .ref (B + 80)) (hz_dec kX12_sign 48 rfl) fo_X12_261 hO h8 (by omega) (hF.2 94 (by decide) (by decide)) ?_
    refine hz_aloadn (pc := 88) 1 (hz_dec kX12_sign 49 rfl) rfl ?_
    refine hz_get (pc := 89) (v := .int (nI (2 + 73 * i))) (hz_dec kX12_sign 50 rfl) fo_X12_679 hO h8 (by omega) g95 ?_
    refine hz_aloadn (pc := 92) 1 (hz_dec kX12_sign 51 rfl) rfl ?_
    refine hz_get (pc := 93) (v := .ref (B + 81)) (hz_dec kX12_sign 52 rfl) fo_X12_264 hO h8 (by omega) (hF.2 97 (by decide) (by decide)) ?_
    refine hz_iloadn (pc := 96) 0 (hz_dec kX12_sign 53 rfl) rfl ?_
    refine hz_lald (pc := 97) (j := i) (hz_dec kX12_sign 54 rfl) hE.a81 (by omega) (by omega) rfl (by omega) (by decide) ?_
    refine hz_eql (pc := 98) (dX i h1).1 ?_
    have e80c : M (B + 80) = .inl (1, 4000, .inl g) := by rw [← hg]; exact hE.a80
    refine hz_callS (pc := 98) (As := [.ref (B + 80), .int (nI (2 + 73 * i)), .long ((diL (hoI H) i).1)]) (st := []) (hz_dec kX12_sign 55 rfl) co_X12_334 sc_X12_putLong (c_putLong (at_ := 2 + 73 * i) (v := (diL (hoI H) i).1) e80c (by omega) (by omega) (by decide) (by omega)) rfl (by decide) ⟨Nat.le_refl _, Nat.le_refl _⟩ (Nat.le_of_ble_eq_true rfl) rfl (fun r9 z9 M9 hp9 => ?_)
    obtain ⟨rfl, rfl, g1, u1, v1, rfl⟩ := hp9
    refine hz_aloadn (pc := 101) 1 (hz_dec kX12_sign 56 rfl) rfl ?_
    refine hz_get (pc := 102) (v := .ref (B + 80)) (hz_dec kX12_sign 57 rfl) fo_X12_261 (hz_mne hO (by omega)) h8 (by omega) (hF.2 94 (by decide) (by decide)) ?_
    refine hz_aloadn (pc := 105) 1 (hz_dec kX12_sign 58 rfl) rfl ?_
    refine hz_get (pc := 106) (v := .int (nI (2 + 73 * i))) (hz_dec kX12_sign 59 rfl) fo_X12_679 (hz_mne hO (by omega)) h8 (by omega) g95 ?_
    refine hz_bipush (pc := 109) (v := nI 8) (hz_dec kX12_sign 60 rfl) (by decide) ?_
    refine hz_addN (pc := 111) (hz_dec kX12_sign 61 rfl) ?_
    refine hz_aloadn (pc := 112) 1 (hz_dec kX12_sign 62 rfl) rfl ?_
    refine hz_get (pc := 113) (v := .ref (B + 82)) (hz_dec kX12_sign 63 rfl) fo_X12_267 (hz_mne hO (by omega)) h8 (by omega) (hF.2 98 (by decide) (by decide)) ?_
    refine hz_iloadn (pc := 116) 0 (hz_dec kX12_sign 64 rfl) rfl ?_
    refine hz_iald (pc := 117) (j := i) (hz_dec kX12_sign 65 rfl) (hz_mne hE.a82 (by omega)) (by omega) (by omega) rfl (by omega) (by decide) ?_
    refine hz_eqi (pc := 118) (dX i h1).2.1 ?_
    refine hz_i2b (pc := 118) (hz_dec kX12_sign 66 rfl) ?_
    refine hz_bast (pc := 119) (j := (2 + 73 * i) + 8) (hz_dec kX12_sign 67 rfl) (va_up_self _ _ _) (by omega) (by omega) rfl (by omega) (by decide) ?_
    refine hz_mem (pc := 120) (M2 := (va_up M (B + 80) (.inl (1, 4000, .inl (upd g1 ((2 + 73 * i) + 8) ((((diL (hoI H) i).2.1).toInt8.toInt32).toInt8.toInt32)))))) (bx_uu _ _ _ _) ?_
    have hI2 : sgI M1 (va_up M (B + 80) (.inl (1, 4000, .inl (upd g1 ((2 + 73 * i) + 8) ((((diL (hoI H) i).2.1).toInt8.toInt32).toInt8.toInt32))))) B (2 + 73 * i) (hoE H) := ⟨hm.tr ((mfr.rf (ks := [95, 103]) (os := [3, 4, 5, 6, 7, 8, 9, 80]) hm.2.1).upA (o := 80) rfl (by decide)), (hE.upA (k := 80) (t := 1) (n := 4000) (by decide)), (fdB_of (hz_mne hO (by omega)) 95).trans g95, (fdB_of (hz_mne hO (by omega)) 103).trans g103⟩
    have e802 : fA (va_up M (B + 80) (.inl (1, 4000, .inl (upd g1 ((2 + 73 * i) + 8) ((((diL (hoI H) i).2.1).toInt8.toInt32).toInt8.toInt32))))) B 80 = upd g1 ((2 + 73 * i) + 8) ((((diL (hoI H) i).2.1).toInt8.toInt32).toInt8.toInt32) := fA_of (va_up_self _ _ _)
    refine hz_iconst (pc := 120) (v := nI 0) (hz_dec kX12_sign 68 rfl) (by decide) ?_
    refine hz_istoren (pc := 121) (i := 3) (lo2 := [(3, .int (nI 0)), (2, .int (nI i)), (0, .ref B)]) (hz_dec kX12_sign 69 rfl) rfl (by decide) rfl ?_
    refine hz_pick (pc := 122) [0, 1, 2] rfl ?_
    refine c_sr_z hf0 hR1 h1 (g0 := upd g1 ((2 + 73 * i) + 8) ((((diL (hoI H) i).2.1).toInt8.toInt32).toInt8.toInt32)) (fun M3 g3 hI3 hg3 hs3 ho3 => ?_) 64 0 _ _ rfl (by omega) hI2 e802 (fun y hy => absurd hy (by omega)) (fun _ _ => rfl)
    have hw3 : sgW (hoI H) (hoU H) h g3 (2 + 73 * (i + 1)) := sgW_in h1 hw (fun j hj => (ho3 j (by omega)).trans ((upd_o (by omega)).trans (v1 j (by omega)))) (fun r hr => (ho3 _ (by omega)).trans ((upd_o (by omega)).trans (u1 r hr))) ((ho3 _ (by omega)).trans upd_s) hs3
    obtain ⟨hm3, hE3, h953, h1033⟩ := id hI3
    have a73 := (hR1.2.2.2.2.2.2.1).mf hm3 rfl rfl rfl rfl rfl rfl rfl
    have hk3 : md_k B M3 z := hR1.1.mf hm3 rfl rfl
    obtain ⟨⟨fs3, hO3, hF3⟩, -, -, h83, hz3⟩ := id hk3
    have g953 : fs3[95]? = some (.int (nI (2 + 73 * i))) := (fdB_of hO3 95).symm.trans h953
    have g963 : fs3[96]? = some (.int (nI (hoI H).length)) := (fdB_of hO3 96).symm.trans a73.1
    have g1003 : fs3[100]? = some (.int (nI (hoU H).length)) := (fdB_of hO3 100).symm.trans a73.2.1
    have g1033 : fs3[103]? = some (.int (hoE H)) := (fdB_of hO3 103).symm.trans h1033
    obtain ⟨-, -, d23, d33, dX3, oX3⟩ := id a73
    have hsb3 := sgL_b d23 d33
    refine hz_aloadn (pc := 149) 1 (hz_dec kX12_sign 85 rfl) rfl ?_
    refine hz_dup (pc := 150) (hz_dec kX12_sign 86 rfl) rfl ?_
    refine hz_get (pc := 151) (v := .int (nI (2 + 73 * i))) (hz_dec kX12_sign 87 rfl) fo_X12_679 hO3 h8 (by omega) g953 ?_
    refine hz_bipush (pc := 154) (v := nI 73) (hz_dec kX12_sign 88 rfl) (by decide) ?_
    refine hz_addN (pc := 156) (hz_dec kX12_sign 89 rfl) ?_
    refine hz_puti (pc := 157) (hz_dec kX12_sign 90 rfl) fo_X12_679 ft_X12_95 hO3 h8 (by omega) (by rw [hF3.1]; decide) ?_
    refine hz_incN (pc := 160) (i := 2) (lo2 := [(2, .int (nI (i + 1))), (0, .ref B)]) 0 (hz_dec kX12_sign 91 rfl) rfl (by decide) rfl ?_
    refine hz_goto (pc := 163) (tgt := 76) (hz_dec kX12_sign 92 rfl) (by decide) ?_
    have hI4 : sgI M1 (va_up M3 B (.inr (12, (List.set fs3 95 (.int (nI ((2 + 73 * i) + 73))))))) B (2 + 73 * i + 73) (hoE H) := ⟨hm3.tr ((mfr.rf (ks := [95, 103]) (os := [3, 4, 5, 6, 7, 8, 9, 80]) hm3.2.1).upO (k := 95) hO3 hF3 rfl rfl), (hE3.upO), (fdB_of (va_up_self _ _ _) 95).trans (List.getElem?_set_self (by rw [hF3.1]; decide)), (fdB_of (va_up_self _ _ _) 103).trans ((List.getElem?_set_ne (by decide)).trans g1033)⟩
    have hI4b : sgI M1 (va_up M3 B (.inr (12, (List.set fs3 95 (.int (nI ((2 + 73 * i) + 73))))))) B (2 + 73 * (i + 1)) (hoE H) := by rw [show 2 + 73 * (i + 1) = 2 + 73 * i + 73 by omega]; exact hI4
    have e804 : fA (va_up M3 B (.inr (12, (List.set fs3 95 (.int (nI ((2 + 73 * i) + 73))))))) B 80 = g3 := (fA_c (va_up_ne _ _ (by omega))).trans hg3
    refine hz_pick (pc := 76) [0, 1] rfl ?_
    exact ih ((hoI H).length - (i + 1)) (by omega) (i + 1) _ g3 rfl (by omega) hI4b e804 hw3
set_option maxHeartbeats 4000000 in
set_option maxRecDepth 100000 in
theorem c_rsignB {κ : hz_C} {z B : Nat} {M : hz_M} {H : ho_H} (hnn : (hoN H).length ≤ 6) (hT4 : (hoT H).length ≤ 4000) (hR : hmR M z B H) {h : Int32} (hb : (hoU H).length = 0 ∨ ((hoI H).length = 0 ∧ h < 0)) : hz_Mt κ xX12_sign 6 0 0 [.ref B, .int h] z M (hmP M z B (.int (-1)) H) := by
  refine hz_ent (lo := [(0, .ref B), (1, .int h)]) (by decide) (Nat.le_of_ble_eq_true rfl) rfl ?_
  obtain ⟨hk0_, hE0, ⟨m1, m2, m3⟩, hNd, a5, a6, a7, a8⟩ := id hR
  obtain ⟨⟨fs, hO, hF⟩, -, -, h8, hz⟩ := id hk0_
  obtain ⟨x1, x3, x4, x5, x6, x7, x8⟩ := id m3
  refine hz_aloadn (pc := 0) 0 (hz_dec kX12_sign 0 rfl) rfl ?_
  refine hz_iconst (pc := 1) (v := nI 0) (hz_dec kX12_sign 1 rfl) (by decide) ?_
  refine hz_puti (pc := 2) (hz_dec kX12_sign 2 rfl) fo_X12_302 ft_X12_0 hO h8 (by omega) (by rw [hF.1]; decide) ?_
  have hf1 : mfr B [0, 89] [] M (va_up M B (.inr (12, (List.set fs 0 (.int (nI 0)))))) := (mfr.rf ⟨fs, hO, hF⟩).upO (k := 0) hO hF rfl rfl
  have hR1 : hmR (va_up M B (.inr (12, (List.set fs 0 (.int (nI 0)))))) z B H := hR.m0 hf1 hE0.upO ((fdB_of (va_up_self _ _ _) 89).trans ((List.getElem?_set_ne (by decide)).trans ((fdB_of hO 89).symm.trans x8)))
  generalize (va_up M B (.inr (12, (List.set fs 0 (.int (nI 0)))))) = M1 at *
  obtain ⟨hk1, hE1, ⟨n1, d1, q1⟩, hNd1, a51, a61, a71, a81⟩ := id hR1
  obtain ⟨⟨fs1, hO1, hF1⟩, -, -, -, -⟩ := id hk1
  have g96_1 : fs1[96]? = some (.int (nI ((hoI H).length))) := (fdB_of hO1 96).symm.trans a71.1
  have g100_1 : fs1[100]? = some (.int (nI ((hoU H).length))) := (fdB_of hO1 100).symm.trans a71.2.1
  have d2 := a71.2.2.1
  have d3 := a71.2.2.2.1
  refine hz_aloadn (pc := 5) 0 (hz_dec kX12_sign 3 rfl) rfl ?_
  refine hz_get (pc := 6) (v := .int (nI ((hoU H).length))) (hz_dec kX12_sign 4 rfl) fo_X12_685 hO1 h8 (by omega) g100_1 ?_
  refine hz_z_eq (pc := 9) (tgt := 23) (hz_dec kX12_sign 5 rfl) (by decide) (by omega) (fun h1 => ?_) (fun h1 => ?_)
  · skip
    refine hz_iconst (pc := 23) (v := (-1)) (hz_dec kX12_sign 11 rfl) (by decide) ?_
    exact hz_iret (pc := 24) (hz_dec kX12_sign 12 rfl) rfl ⟨rfl, rfl, hf1.S rfl, hR1⟩
  · skip
    refine hz_aloadn (pc := 12) 0 (hz_dec kX12_sign 6 rfl) rfl ?_
    refine hz_get (pc := 13) (v := .int (nI ((hoI H).length))) (hz_dec kX12_sign 7 rfl) fo_X12_682 hO1 h8 (by omega) g96_1 ?_
    refine hz_z_ne (pc := 16) (tgt := 25) (hz_dec kX12_sign 8 rfl) (by decide) (by omega) (fun h2 => ?_) (fun h2 => ?_)
    · skip
      exact absurd hb (by omega)
    · skip
      refine hz_iloadn (pc := 19) 1 (hz_dec kX12_sign 9 rfl) rfl ?_
      refine hz_if_ge (pc := 20) (tgt := 25) (hz_dec kX12_sign 10 rfl) (by decide) (fun h3 => ?_) (fun h3 => ?_)
      · skip
        exact absurd (hb.resolve_left (by omega)).2 (Int32.not_lt.mpr h3)
      · skip
        refine hz_iconst (pc := 23) (v := (-1)) (hz_dec kX12_sign 11 rfl) (by decide) ?_
        exact hz_iret (pc := 24) (hz_dec kX12_sign 12 rfl) rfl ⟨rfl, rfl, hf1.S rfl, hR1⟩
set_option maxHeartbeats 4000000 in
set_option maxRecDepth 100000 in
theorem c_rsign {κ : hz_C} {z B : Nat} {M : hz_M} {H : ho_H} (hnn : (hoN H).length ≤ 6) (hT4 : (hoT H).length ≤ 4000) (hR : hmR M z B H) {h : Int32} (hu : ¬ (hoU H).length = 0) (hi : ¬ ((hoI H).length = 0 ∧ h < 0)) : hz_Mt κ xX12_sign 6 0 0 [.ref B, .int h] z M (hmP M z B (.int (nI (sgL (hoI H) (hoU H)))) (hot H (sgT (hoI H) (hoU H) h) (hoE H))) := by
  refine hz_ent (lo := [(0, .ref B), (1, .int h)]) (by decide) (Nat.le_of_ble_eq_true rfl) rfl ?_
  obtain ⟨hk0_, hE0, ⟨m1, m2, m3⟩, hNd, a5, a6, a7, a8⟩ := id hR
  obtain ⟨⟨fs, hO, hF⟩, -, -, h8, hz⟩ := id hk0_
  obtain ⟨x1, x3, x4, x5, x6, x7, x8⟩ := id m3
  refine hz_aloadn (pc := 0) 0 (hz_dec kX12_sign 0 rfl) rfl ?_
  refine hz_iconst (pc := 1) (v := nI 0) (hz_dec kX12_sign 1 rfl) (by decide) ?_
  refine hz_puti (pc := 2) (hz_dec kX12_sign 2 rfl) fo_X12_302 ft_X12_0 hO h8 (by omega) (by rw [hF.1]; decide) ?_
  have hf1 : mfr B [0, 89] [] M (va_up M B (.inr (12, (List.set fs 0 (.int (nI 0)))))) := (mfr.rf ⟨fs, hO, hF⟩).upO (k := 0) hO hF rfl rfl
  have hR1 : hmR (va_up M B (.inr (12, (List.set fs 0 (.int (nI 0)))))) z B H := hR.m0 hf1 hE0.upO ((fdB_of (va_up_self _ _ _) 89).trans ((List.getElem?_set_ne (by decide)).trans ((fdB_of hO 89).symm.trans x8)))
  generalize (va_up M B (.inr (12, (List.set fs 0 (.int (nI 0)))))) = M1 at *
  obtain ⟨hk1, hE1, ⟨n1, d1, q1⟩, hNd1, a51, a61, a71, a81⟩ := id hR1
  obtain ⟨⟨fs1, hO1, hF1⟩, -, -, -, -⟩ := id hk1
  have g95_1 : fs1[95]? = some (.int (nI ((hoT H).length))) := (fdB_of hO1 95).symm.trans a61
  have g96_1 : fs1[96]? = some (.int (nI ((hoI H).length))) := (fdB_of hO1 96).symm.trans a71.1
  have g100_1 : fs1[100]? = some (.int (nI ((hoU H).length))) := (fdB_of hO1 100).symm.trans a71.2.1
  have g103_1 : fs1[103]? = some (.int (hoE H)) := (fdB_of hO1 103).symm.trans a81
  have d2 := a71.2.2.1
  have d3 := a71.2.2.2.1
  refine hz_aloadn (pc := 5) 0 (hz_dec kX12_sign 3 rfl) rfl ?_
  refine hz_get (pc := 6) (v := .int (nI ((hoU H).length))) (hz_dec kX12_sign 4 rfl) fo_X12_685 hO1 h8 (by omega) g100_1 ?_
  refine hz_z_eq (pc := 9) (tgt := 23) (hz_dec kX12_sign 5 rfl) (by decide) (by omega) (fun h1 => ?_) (fun h1 => ?_)
  · skip
    exact absurd h1 hu
  · skip
    refine hz_aloadn (pc := 12) 0 (hz_dec kX12_sign 6 rfl) rfl ?_
    refine hz_get (pc := 13) (v := .int (nI ((hoI H).length))) (hz_dec kX12_sign 7 rfl) fo_X12_682 hO1 h8 (by omega) g96_1 ?_
    refine hz_z_ne (pc := 16) (tgt := 25) (hz_dec kX12_sign 8 rfl) (by decide) (by omega) (fun h2 => ?_) (fun h2 => ?_)
    · skip
      refine hz_aloadn (pc := 25) 0 (hz_dec kX12_sign 13 rfl) rfl ?_
      refine hz_get (pc := 26) (v := .ref (B + 80)) (hz_dec kX12_sign 14 rfl) fo_X12_261 hO1 h8 (by omega) (hF1.2 94 (by decide) (by decide)) ?_
      refine hz_iconst (pc := 29) (v := nI 0) (hz_dec kX12_sign 15 rfl) (by decide) ?_
      refine hz_aloadn (pc := 30) 0 (hz_dec kX12_sign 16 rfl) rfl ?_
      refine hz_get (pc := 31) (v := .int (nI ((hoI H).length))) (hz_dec kX12_sign 17 rfl) fo_X12_682 hO1 h8 (by omega) g96_1 ?_
      refine hz_i2b (pc := 34) (hz_dec kX12_sign 18 rfl) ?_
      refine hz_bast (pc := 35) (j := 0) (hz_dec kX12_sign 19 rfl) hE1.a80 (by omega) (by omega) rfl (by omega) (by decide) ?_
      refine hz_aloadn (pc := 36) 0 (hz_dec kX12_sign 20 rfl) rfl ?_
      refine hz_get (pc := 37) (v := .ref (B + 80)) (hz_dec kX12_sign 21 rfl) fo_X12_261 (hz_mne hO1 (by omega)) h8 (by omega) (hF1.2 94 (by decide) (by decide)) ?_
      refine hz_iconst (pc := 40) (v := nI 1) (hz_dec kX12_sign 22 rfl) (by decide) ?_
      refine hz_aloadn (pc := 41) 0 (hz_dec kX12_sign 23 rfl) rfl ?_
      refine hz_get (pc := 42) (v := .int (nI ((hoU H).length))) (hz_dec kX12_sign 24 rfl) fo_X12_685 (hz_mne hO1 (by omega)) h8 (by omega) g100_1 ?_
      refine hz_i2b (pc := 45) (hz_dec kX12_sign 25 rfl) ?_
      refine hz_bast (pc := 46) (j := 1) (hz_dec kX12_sign 26 rfl) (va_up_self _ _ _) (by omega) (by omega) rfl (by omega) (by decide) ?_
      refine hz_aloadn (pc := 47) 0 (hz_dec kX12_sign 27 rfl) rfl ?_
      refine hz_iconst (pc := 48) (v := nI 2) (hz_dec kX12_sign 28 rfl) (by decide) ?_
      refine hz_puti (pc := 49) (hz_dec kX12_sign 29 rfl) fo_X12_679 ft_X12_95 (hz_mne (hz_mne hO1 (by omega)) (by omega)) h8 (by omega) (by rw [hF1.1]; decide) ?_
      have hm : mfr B [95, 103] [3, 4, 5, 6, 7, 8, 9, 80] M1 M1 := mfr.rf hk1.1
      have hI2 : sgI M1 (va_up (va_up (va_up M1 (B + 80) (.inl (1, 4000, .inl (upd (fA M1 B 80) 0 (((nI ((hoI H).length)).toInt8.toInt32).toInt8.toInt32))))) (B + 80) (.inl (1, 4000, .inl (upd (upd (fA M1 B 80) 0 (((nI ((hoI H).length)).toInt8.toInt32).toInt8.toInt32)) 1 (((nI ((hoU H).length)).toInt8.toInt32).toInt8.toInt32))))) B (.inr (12, (List.set fs1 95 (.int (nI 2)))))) B 2 (hoE H) := ⟨((((mfr.rf (ks := [95, 103]) (os := [3, 4, 5, 6, 7, 8, 9, 80]) hk1.1).upA (o := 80) rfl (by decide)).upA (o := 80) rfl (by decide)).upO (k := 95) (hz_mne (hz_mne hO1 (by omega)) (by omega)) hF1 rfl rfl), (((hE1.upA (k := 80) (t := 1) (n := 4000) (by decide)).upA (k := 80) (t := 1) (n := 4000) (by decide)).upO), (fdB_of (va_up_self _ _ _) 95).trans (List.getElem?_set_self (by rw [hF1.1]; decide)), (fdB_of (va_up_self _ _ _) 103).trans ((List.getElem?_set_ne (by decide)).trans g103_1)⟩
      have e802 : fA (va_up (va_up (va_up M1 (B + 80) (.inl (1, 4000, .inl (upd (fA M1 B 80) 0 (((nI ((hoI H).length)).toInt8.toInt32).toInt8.toInt32))))) (B + 80) (.inl (1, 4000, .inl (upd (upd (fA M1 B 80) 0 (((nI ((hoI H).length)).toInt8.toInt32).toInt8.toInt32)) 1 (((nI ((hoU H).length)).toInt8.toInt32).toInt8.toInt32))))) B (.inr (12, (List.set fs1 95 (.int (nI 2)))))) B 80 = upd (upd (fA M1 B 80) 0 ((nI (hoI H).length).toInt8.toInt32.toInt8.toInt32)) 1 ((nI (hoU H).length).toInt8.toInt32.toInt8.toInt32) := (fA_c (va_up_ne _ _ (by omega))).trans (fA_of (va_up_self _ _ _))
      have hw2 : sgW (hoI H) (hoU H) h (upd (upd (fA M1 B 80) 0 ((nI (hoI H).length).toInt8.toInt32.toInt8.toInt32)) 1 ((nI (hoU H).length).toInt8.toInt32.toInt8.toInt32)) 2 := by
        intro j hj
        rcases (show j = 0 ∨ j = 1 by omega) with c | c
        · rw [c, upd_o (by decide), upd_s]; rfl
        · rw [c, upd_s]; rfl
      generalize (va_up (va_up (va_up M1 (B + 80) (.inl (1, 4000, .inl (upd (fA M1 B 80) 0 (((nI ((hoI H).length)).toInt8.toInt32).toInt8.toInt32))))) (B + 80) (.inl (1, 4000, .inl (upd (upd (fA M1 B 80) 0 (((nI ((hoI H).length)).toInt8.toInt32).toInt8.toInt32)) 1 (((nI ((hoU H).length)).toInt8.toInt32).toInt8.toInt32))))) B (.inr (12, (List.set fs1 95 (.int (nI 2)))))) = M2 at *
      generalize upd (upd (fA M1 B 80) 0 ((nI (hoI H).length).toInt8.toInt32.toInt8.toInt32)) 1 ((nI (hoU H).length).toInt8.toInt32.toInt8.toInt32) = g2 at *
      obtain ⟨hm2, hE2, h952, h1032⟩ := id hI2
      have a72 := (hR1.2.2.2.2.2.2.1).mf hm2 rfl rfl rfl rfl rfl rfl rfl
      have hk2 : md_k B M2 z := hR1.1.mf hm2 rfl rfl
      obtain ⟨⟨fs2, hO2, hF2⟩, -, -, h82, hz2⟩ := id hk2
      have g952 : fs2[95]? = some (.int (nI (2))) := (fdB_of hO2 95).symm.trans h952
      have g962 : fs2[96]? = some (.int (nI (hoI H).length)) := (fdB_of hO2 96).symm.trans a72.1
      have g1002 : fs2[100]? = some (.int (nI (hoU H).length)) := (fdB_of hO2 100).symm.trans a72.2.1
      have g1032 : fs2[103]? = some (.int (hoE H)) := (fdB_of hO2 103).symm.trans h1032
      obtain ⟨-, -, d22, d32, dX2, oX2⟩ := id a72
      have hsb2 := sgL_b d22 d32
      refine hz_aloadn (pc := 52) 0 (hz_dec kX12_sign 30 rfl) rfl ?_
      refine hz_get (pc := 53) (v := .int (nI ((hoI H).length))) (hz_dec kX12_sign 31 rfl) fo_X12_682 hO2 h8 (by omega) g962 ?_
      refine hz_z_ne (pc := 56) (tgt := 74) (hz_dec kX12_sign 32 rfl) (by decide) (by omega) (fun h5 => ?_) (fun h5 => ?_)
      · skip
        have hl : ¬ (hoI H).length = 0 := by omega
        refine hz_iconst (pc := 74) (v := nI 0) (hz_dec kX12_sign 41 rfl) (by decide) ?_
        refine hz_istoren (pc := 75) (i := 2) (lo2 := [(2, .int (nI 0)), (0, .ref B), (1, .int h)]) (hz_dec kX12_sign 42 rfl) rfl (by decide) rfl ?_
        refine hz_pick (pc := 76) [0, 1] rfl ?_
        exact c_sr_i (hf1.S rfl) hR1 hl (hoI H).length 0 M2 g2 rfl (by omega) hI2 e802 hw2
      · skip
        refine hz_aloadn (pc := 59) 0 (hz_dec kX12_sign 33 rfl) rfl ?_
        refine hz_get (pc := 60) (v := .ref (B + 80)) (hz_dec kX12_sign 34 rfl) fo_X12_261 hO2 h8 (by omega) (hF2.2 94 (by decide) (by decide)) ?_
        refine hz_iconst (pc := 63) (v := nI 2) (hz_dec kX12_sign 35 rfl) (by decide) ?_
        refine hz_iloadn (pc := 64) 1 (hz_dec kX12_sign 36 rfl) rfl ?_
        have e80c : M2 (B + 80) = .inl (1, 4000, .inl g2) := by rw [← e802]; exact hE2.a80
        refine hz_callS (pc := 65) (As := [.ref (B + 80), .int (nI 2), .int h]) (st := []) (hz_dec kX12_sign 37 rfl) co_X12_425 sc_X12_putInt (c_putInt (at_ := 2) (v := h) e80c (by omega) (by omega) (by decide) (by decide)) rfl (by decide) ⟨Nat.le_refl _, Nat.le_refl _⟩ (Nat.le_of_ble_eq_true rfl) rfl (fun r9 z9 M9 hp9 => ?_)
        obtain ⟨rfl, rfl, g3, u3, v3, rfl⟩ := hp9
        refine hz_aloadn (pc := 68) 0 (hz_dec kX12_sign 38 rfl) rfl ?_
        refine hz_bipush (pc := 69) (v := nI 6) (hz_dec kX12_sign 39 rfl) (by decide) ?_
        refine hz_puti (pc := 71) (hz_dec kX12_sign 40 rfl) fo_X12_679 ft_X12_95 (hz_mne hO2 (by omega)) h8 (by omega) (by rw [hF2.1]; decide) ?_
        have hI3 : sgI M1 (va_up (va_up M2 (B + 80) (.inl (1, 4000, .inl (g3)))) B (.inr (12, (List.set fs2 95 (.int (nI 6)))))) B (6) (hoE H) := ⟨hm2.tr (((mfr.rf (ks := [95, 103]) (os := [3, 4, 5, 6, 7, 8, 9, 80]) hm2.2.1).upA (o := 80) rfl (by decide)).upO (k := 95) (hz_mne hO2 (by omega)) hF2 rfl rfl), ((hE2.upA (k := 80) (t := 1) (n := 4000) (by decide)).upO), (fdB_of (va_up_self _ _ _) 95).trans (List.getElem?_set_self (by rw [hF2.1]; decide)), (fdB_of (va_up_self _ _ _) 103).trans ((List.getElem?_set_ne (by decide)).trans g1032)⟩
        have e803 : fA (va_up (va_up M2 (B + 80) (.inl (1, 4000, .inl (g3)))) B (.inr (12, (List.set fs2 95 (.int (nI 6)))))) B 80 = g3 := (fA_c (va_up_ne _ _ (by omega))).trans (fA_of (va_up_self _ _ _))
        have hw3 : sgW (hoI H) (hoU H) h g3 (2 + tx_oa (hoI H).length + 16 * 0) := by
          rw [h5, oa_0]
          intro j hj
          rcases (show j < 2 ∨ 2 ≤ j by omega) with c | c
          · rw [v3 j (by omega)]; exact hw2 j c
          · obtain ⟨r, e⟩ : ∃ r, j = 2 + r := ⟨j - 2, by omega⟩
            have hr : r < 4 := by omega
            rw [e, u3 r hr, sgF_h h5 hr]
        have hI3b : sgI M1 (va_up (va_up M2 (B + 80) (.inl (1, 4000, .inl (g3)))) B (.inr (12, (List.set fs2 95 (.int (nI 6)))))) B (2 + tx_oa (hoI H).length + 16 * 0) (hoE H) := by rw [h5]; exact hI3
        refine hz_iconst (pc := 74) (v := nI 0) (hz_dec kX12_sign 41 rfl) (by decide) ?_
        refine hz_istoren (pc := 75) (i := 2) (lo2 := [(2, .int (nI 0)), (0, .ref B), (1, .int h)]) (hz_dec kX12_sign 42 rfl) rfl (by decide) rfl ?_
        refine hz_iloadn (pc := 76) 0 (hz_dec kX12_sign 43 rfl) rfl ?_
        refine hz_aloadn (pc := 77) 1 (hz_dec kX12_sign 44 rfl) rfl ?_
        refine hz_get (pc := 78) (v := .int (nI ((hoI H).length))) (hz_dec kX12_sign 45 rfl) fo_X12_682 (va_up_self _ _ _) h8 (by omega) ((List.getElem?_set_ne (by decide)).trans g962) ?_
        refine hz_n_ge (pc := 81) (tgt := 166) (hz_dec kX12_sign 46 rfl) (by decide) (by omega) (by omega) (fun h6 => ?_) (fun h6 => ?_)
        · skip
          refine hz_iconst (pc := 166) (v := nI 0) (hz_dec kX12_sign 93 rfl) (by decide) ?_
          refine hz_istoren (pc := 167) (i := 2) (lo2 := [(2, .int (nI 0)), (0, .ref B), (1, .int h)]) (hz_dec kX12_sign 94 rfl) rfl (by decide) rfl ?_
          refine hz_pick (pc := 168) [0, 1] rfl ?_
          exact c_sr_o (hf1.S rfl) hR1 (hoU H).length 0 _ g3 rfl (by omega) hI3b e803 hw3
        · skip
          exact absurd h6 (by omega)
    · skip
      refine hz_iloadn (pc := 19) 1 (hz_dec kX12_sign 9 rfl) rfl ?_
      refine hz_if_ge (pc := 20) (tgt := 25) (hz_dec kX12_sign 10 rfl) (by decide) (fun h3 => ?_) (fun h3 => ?_)
      · skip
        refine hz_aloadn (pc := 25) 0 (hz_dec kX12_sign 13 rfl) rfl ?_
        refine hz_get (pc := 26) (v := .ref (B + 80)) (hz_dec kX12_sign 14 rfl) fo_X12_261 hO1 h8 (by omega) (hF1.2 94 (by decide) (by decide)) ?_
        refine hz_iconst (pc := 29) (v := nI 0) (hz_dec kX12_sign 15 rfl) (by decide) ?_
        refine hz_aloadn (pc := 30) 0 (hz_dec kX12_sign 16 rfl) rfl ?_
        refine hz_get (pc := 31) (v := .int (nI ((hoI H).length))) (hz_dec kX12_sign 17 rfl) fo_X12_682 hO1 h8 (by omega) g96_1 ?_
        refine hz_i2b (pc := 34) (hz_dec kX12_sign 18 rfl) ?_
        refine hz_bast (pc := 35) (j := 0) (hz_dec kX12_sign 19 rfl) hE1.a80 (by omega) (by omega) rfl (by omega) (by decide) ?_
        refine hz_aloadn (pc := 36) 0 (hz_dec kX12_sign 20 rfl) rfl ?_
        refine hz_get (pc := 37) (v := .ref (B + 80)) (hz_dec kX12_sign 21 rfl) fo_X12_261 (hz_mne hO1 (by omega)) h8 (by omega) (hF1.2 94 (by decide) (by decide)) ?_
        refine hz_iconst (pc := 40) (v := nI 1) (hz_dec kX12_sign 22 rfl) (by decide) ?_
        refine hz_aloadn (pc := 41) 0 (hz_dec kX12_sign 23 rfl) rfl ?_
        refine hz_get (pc := 42) (v := .int (nI ((hoU H).length))) (hz_dec kX12_sign 24 rfl) fo_X12_685 (hz_mne hO1 (by omega)) h8 (by omega) g100_1 ?_
        refine hz_i2b (pc := 45) (hz_dec kX12_sign 25 rfl) ?_
        refine hz_bast (pc := 46) (j := 1) (hz_dec kX12_sign 26 rfl) (va_up_self _ _ _) (by omega) (by omega) rfl (by omega) (by decide) ?_
        refine hz_aloadn (pc := 47) 0 (hz_dec kX12_sign 27 rfl) rfl ?_
        refine hz_iconst (pc := 48) (v := nI 2) (hz_dec kX12_sign 28 rfl) (by decide) ?_
        refine hz_puti (pc := 49) (hz_dec kX12_sign 29 rfl) fo_X12_679 ft_X12_95 (hz_mne (hz_mne hO1 (by omega)) (by omega)) h8 (by omega) (by rw [hF1.1]; decide) ?_
        have hm : mfr B [95, 103] [3, 4, 5, 6, 7, 8, 9, 80] M1 M1 := mfr.rf hk1.1
        have hI2 : sgI M1 (va_up (va_up (va_up M1 (B + 80) (.inl (1, 4000, .inl (upd (fA M1 B 80) 0 (((nI ((hoI H).length)).toInt8.toInt32).toInt8.toInt32))))) (B + 80) (.inl (1, 4000, .inl (upd (upd (fA M1 B 80) 0 (((nI ((hoI H).length)).toInt8.toInt32).toInt8.toInt32)) 1 (((nI ((hoU H).length)).toInt8.toInt32).toInt8.toInt32))))) B (.inr (12, (List.set fs1 95 (.int (nI 2)))))) B 2 (hoE H) := ⟨((((mfr.rf (ks := [95, 103]) (os := [3, 4, 5, 6, 7, 8, 9, 80]) hk1.1).upA (o := 80) rfl (by decide)).upA (o := 80) rfl (by decide)).upO (k := 95) (hz_mne (hz_mne hO1 (by omega)) (by omega)) hF1 rfl rfl), (((hE1.upA (k := 80) (t := 1) (n := 4000) (by decide)).upA (k := 80) (t := 1) (n := 4000) (by decide)).upO), (fdB_of (va_up_self _ _ _) 95).trans (List.getElem?_set_self (by rw [hF1.1]; decide)), (fdB_of (va_up_self _ _ _) 103).trans ((List.getElem?_set_ne (by decide)).trans g103_1)⟩
        have e802 : fA (va_up (va_up (va_up M1 (B + 80) (.inl (1, 4000, .inl (upd (fA M1 B 80) 0 (((nI ((hoI H).length)).toInt8.toInt32).toInt8.toInt32))))) (B + 80) (.inl (1, 4000, .inl (upd (upd (fA M1 B 80) 0 (((nI ((hoI H).length)).toInt8.toInt32).toInt8.toInt32)) 1 (((nI ((hoU H).length)).toInt8.toInt32).toInt8.toInt32))))) B (.inr (12, (List.set fs1 95 (.int (nI 2)))))) B 80 = upd (upd (fA M1 B 80) 0 ((nI (hoI H).length).toInt8.toInt32.toInt8.toInt32)) 1 ((nI (hoU H).length).toInt8.toInt32.toInt8.toInt32) := (fA_c (va_up_ne _ _ (by omega))).trans (fA_of (va_up_self _ _ _))
        have hw2 : sgW (hoI H) (hoU H) h (upd (upd (fA M1 B 80) 0 ((nI (hoI H).length).toInt8.toInt32.toInt8.toInt32)) 1 ((nI (hoU H).length).toInt8.toInt32.toInt8.toInt32)) 2 := by
          intro j hj
          rcases (show j = 0 ∨ j = 1 by omega) with c | c
          · rw [c, upd_o (by decide), upd_s]; rfl
          · rw [c, upd_s]; rfl
        generalize (va_up (va_up (va_up M1 (B + 80) (.inl (1, 4000, .inl (upd (fA M1 B 80) 0 (((nI ((hoI H).length)).toInt8.toInt32).toInt8.toInt32))))) (B + 80) (.inl (1, 4000, .inl (upd (upd (fA M1 B 80) 0 (((nI ((hoI H).length)).toInt8.toInt32).toInt8.toInt32)) 1 (((nI ((hoU H).length)).toInt8.toInt32).toInt8.toInt32))))) B (.inr (12, (List.set fs1 95 (.int (nI 2)))))) = M2 at *
        generalize upd (upd (fA M1 B 80) 0 ((nI (hoI H).length).toInt8.toInt32.toInt8.toInt32)) 1 ((nI (hoU H).length).toInt8.toInt32.toInt8.toInt32) = g2 at *
        obtain ⟨hm2, hE2, h952, h1032⟩ := id hI2
        have a72 := (hR1.2.2.2.2.2.2.1).mf hm2 rfl rfl rfl rfl rfl rfl rfl
        have hk2 : md_k B M2 z := hR1.1.mf hm2 rfl rfl
        obtain ⟨⟨fs2, hO2, hF2⟩, -, -, h82, hz2⟩ := id hk2
        have g952 : fs2[95]? = some (.int (nI (2))) := (fdB_of hO2 95).symm.trans h952
        have g962 : fs2[96]? = some (.int (nI (hoI H).length)) := (fdB_of hO2 96).symm.trans a72.1
        have g1002 : fs2[100]? = some (.int (nI (hoU H).length)) := (fdB_of hO2 100).symm.trans a72.2.1
        have g1032 : fs2[103]? = some (.int (hoE H)) := (fdB_of hO2 103).symm.trans h1032
        obtain ⟨-, -, d22, d32, dX2, oX2⟩ := id a72
        have hsb2 := sgL_b d22 d32
        refine hz_aloadn (pc := 52) 0 (hz_dec kX12_sign 30 rfl) rfl ?_
        refine hz_get (pc := 53) (v := .int (nI ((hoI H).length))) (hz_dec kX12_sign 31 rfl) fo_X12_682 hO2 h8 (by omega) g962 ?_
        refine hz_z_ne (pc := 56) (tgt := 74) (hz_dec kX12_sign 32 rfl) (by decide) (by omega) (fun h5 => ?_) (fun h5 => ?_)
        · skip
          have hl : ¬ (hoI H).length = 0 := by omega
          refine hz_iconst (pc := 74) (v := nI 0) (hz_dec kX12_sign 41 rfl) (by decide) ?_
          refine hz_istoren (pc := 75) (i := 2) (lo2 := [(2, .int (nI 0)), (0, .ref B), (1, .int h)]) (hz_dec kX12_sign 42 rfl) rfl (by decide) rfl ?_
          refine hz_pick (pc := 76) [0, 1] rfl ?_
          exact c_sr_i (hf1.S rfl) hR1 hl (hoI H).length 0 M2 g2 rfl (by omega) hI2 e802 hw2
        · skip
          refine hz_aloadn (pc := 59) 0 (hz_dec kX12_sign 33 rfl) rfl ?_
          refine hz_get (pc := 60) (v := .ref (B + 80)) (hz_dec kX12_sign 34 rfl) fo_X12_261 hO2 h8 (by omega) (hF2.2 94 (by decide) (by decide)) ?_
          refine hz_iconst (pc := 63) (v := nI 2) (hz_dec kX12_sign 35 rfl) (by decide) ?_
          refine hz_iloadn (pc := 64) 1 (hz_dec kX12_sign 36 rfl) rfl ?_
          have e80c : M2 (B + 80) = .inl (1, 4000, .inl g2) := by rw [← e802]; exact hE2.a80
          refine hz_callS (pc := 65) (As := [.ref (B + 80), .int (nI 2), .int h]) (st := []) (hz_dec kX12_sign 37 rfl) co_X12_425 sc_X12_putInt (c_putInt (at_ := 2) (v := h) e80c (by omega) (by omega) (by decide) (by decide)) rfl (by decide) ⟨Nat.le_refl _, Nat.le_refl _⟩ (Nat.le_of_ble_eq_true rfl) rfl (fun r9 z9 M9 hp9 => ?_)
          obtain ⟨rfl, rfl, g3, u3, v3, rfl⟩ := hp9
          refine hz_aloadn (pc := 68) 0 (hz_dec kX12_sign 38 rfl) rfl ?_
          refine hz_bipush (pc := 69) (v := nI 6) (hz_dec kX12_sign 39 rfl) (by decide) ?_
          refine hz_puti (pc := 71) (hz_dec kX12_sign 40 rfl) fo_X12_679 ft_X12_95 (hz_mne hO2 (by omega)) h8 (by omega) (by rw [hF2.1]; decide) ?_
          have hI3 : sgI M1 (va_up (va_up M2 (B + 80) (.inl (1, 4000, .inl (g3)))) B (.inr (12, (List.set fs2 95 (.int (nI 6)))))) B (6) (hoE H) := ⟨hm2.tr (((mfr.rf (ks := [95, 103]) (os := [3, 4, 5, 6, 7, 8, 9, 80]) hm2.2.1).upA (o := 80) rfl (by decide)).upO (k := 95) (hz_mne hO2 (by omega)) hF2 rfl rfl), ((hE2.upA (k := 80) (t := 1) (n := 4000) (by decide)).upO), (fdB_of (va_up_self _ _ _) 95).trans (List.getElem?_set_self (by rw [hF2.1]; decide)), (fdB_of (va_up_self _ _ _) 103).trans ((List.getElem?_set_ne (by decide)).trans g1032)⟩
          have e803 : fA (va_up (va_up M2 (B + 80) (.inl (1, 4000, .inl (g3)))) B (.inr (12, (List.set fs2 95 (.int (nI 6)))))) B 80 = g3 := (fA_c (va_up_ne _ _ (by omega))).trans (fA_of (va_up_self _ _ _))
          have hw3 : sgW (hoI H) (hoU H) h g3 (2 + tx_oa (hoI H).length + 16 * 0) := by
            rw [h5, oa_0]
            intro j hj
            rcases (show j < 2 ∨ 2 ≤ j by omega) with c | c
            · rw [v3 j (by omega)]; exact hw2 j c
            · obtain ⟨r, e⟩ : ∃ r, j = 2 + r := ⟨j - 2, by omega⟩
              have hr : r < 4 := by omega
              rw [e, u3 r hr, sgF_h h5 hr]
          have hI3b : sgI M1 (va_up (va_up M2 (B + 80) (.inl (1, 4000, .inl (g3)))) B (.inr (12, (List.set fs2 95 (.int (nI 6)))))) B (2 + tx_oa (hoI H).length + 16 * 0) (hoE H) := by rw [h5]; exact hI3
          refine hz_iconst (pc := 74) (v := nI 0) (hz_dec kX12_sign 41 rfl) (by decide) ?_
          refine hz_istoren (pc := 75) (i := 2) (lo2 := [(2, .int (nI 0)), (0, .ref B), (1, .int h)]) (hz_dec kX12_sign 42 rfl) rfl (by decide) rfl ?_
          refine hz_iloadn (pc := 76) 0 (hz_dec kX12_sign 43 rfl) rfl ?_
          refine hz_aloadn (pc := 77) 1 (hz_dec kX12_sign 44 rfl) rfl ?_
          refine hz_get (pc := 78) (v := .int (nI ((hoI H).length))) (hz_dec kX12_sign 45 rfl) fo_X12_682 (va_up_self _ _ _) h8 (by omega) ((List.getElem?_set_ne (by decide)).trans g962) ?_
          refine hz_n_ge (pc := 81) (tgt := 166) (hz_dec kX12_sign 46 rfl) (by decide) (by omega) (by omega) (fun h6 => ?_) (fun h6 => ?_)
          · skip
            refine hz_iconst (pc := 166) (v := nI 0) (hz_dec kX12_sign 93 rfl) (by decide) ?_
            refine hz_istoren (pc := 167) (i := 2) (lo2 := [(2, .int (nI 0)), (0, .ref B), (1, .int h)]) (hz_dec kX12_sign 94 rfl) rfl (by decide) rfl ?_
            refine hz_pick (pc := 168) [0, 1] rfl ?_
            exact c_sr_o (hf1.S rfl) hR1 (hoU H).length 0 _ g3 rfl (by omega) hI3b e803 hw3
          · skip
            exact absurd h6 (by omega)
      · skip
        exact absurd ⟨h2, Int32.not_le.mp h3⟩ hi
