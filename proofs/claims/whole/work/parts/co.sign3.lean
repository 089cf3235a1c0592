/-! sign: the reference -/
theorem hmR.tt {M M2 : hz_M} {z B : Nat} {H : ho_H} {T : by_L} {e : Int32} (h : hmR M z B H) (f : mfr B [95, 103] [3, 4, 5, 6, 7, 8, 9, 80] M M2) (hE : mdE M2 B) (hT : isA (fA M2 B 80) 0 T) (h95 : fdB M2 B 95 = some (.int (nI T.length))) (h103 : fdB M2 B 103 = some (.int e)) : hmR M2 z B (hot H T e) := by
  obtain ⟨a1, a2, a3, a4, a5, a6, a7, a8⟩ := h
  exact ⟨a1.mf f rfl rfl, hE, a3.mf f rfl rfl, fun v hv => (a4 v hv).sc f rfl rfl rfl rfl rfl, hT, h95, a7.mf f rfl rfl rfl rfl rfl rfl rfl, h103⟩
def sgI (M1 M : hz_M) (B s : Nat) (e : Int32) : Prop := mfr B [95, 103] [3, 4, 5, 6, 7, 8, 9, 80] M1 M ∧ mdE M B ∧ fdB M B 95 = some (.int (nI s)) ∧ fdB M B 103 = some (.int e)
def sgW (li : List di_I) (lo : List do_O) (h : Int32) (g : Nat → Int32) (m : Nat) : Prop := ∀ j, j < m → g j = sgF li lo h (fun _ _ => 0) j
theorem sgW_in {li : List di_I} {lo : List do_O} {h : Int32} {g g2 : Nat → Int32} {i : Nat} (hi : i < li.length) (hg : sgW li lo h g (2 + 73 * i)) (e0 : ∀ j, j < 2 + 73 * i → g2 j = g j) (e1 : ∀ r, r < 8 → g2 (2 + 73 * i + r) = sb_b (byl (diL li i).1 r)) (e2 : g2 (2 + 73 * i + 8) = bI (diL li i).2.1) (e3 : ∀ x, x < 64 → g2 (2 + 73 * i + 9 + x) = 0) : sgW li lo h g2 (2 + 73 * (i + 1)) := by
  intro j hj
  rcases (show j < 2 + 73 * i ∨ 2 + 73 * i ≤ j by omega) with c | c
  · rw [e0 j c]; exact hg j c
  · obtain ⟨r, e⟩ : ∃ r, j = 2 + 73 * i + r := ⟨j - (2 + 73 * i), by omega⟩
    have hr : r < 73 := by omega
    rw [e, sgF_in hi hr]
    rcases (show r < 8 ∨ r = 8 ∨ 9 ≤ r by omega) with c | c | c
    · rw [if_pos c, e1 r c]
    · rw [if_neg (by omega), if_pos c, c, e2]
    · have q := e3 (r - 9) (by omega)
      rw [show 2 + 73 * i + 9 + (r - 9) = 2 + 73 * i + r by omega] at q
      rw [if_neg (by omega), if_neg (by omega), q]
theorem sgW_ou {li : List di_I} {lo : List do_O} {h : Int32} {g g2 : Nat → Int32} {i : Nat} (hg : sgW li lo h g (2 + tx_oa li.length + 16 * i)) (e0 : ∀ j, j < 2 + tx_oa li.length + 16 * i → g2 j = g j) (e1 : ∀ r, r < 8 → g2 (2 + tx_oa li.length + 16 * i + r) = sb_b (byl (doL lo i).1 r)) (e2 : ∀ r, r < 8 → g2 (2 + tx_oa li.length + 16 * i + 8 + r) = sb_b (byl (doL lo i).2 r)) : sgW li lo h g2 (2 + tx_oa li.length + 16 * (i + 1)) := by
  intro j hj
  rcases (show j < 2 + tx_oa li.length + 16 * i ∨ 2 + tx_oa li.length + 16 * i ≤ j by omega) with c | c
  · rw [e0 j c]; exact hg j c
  · obtain ⟨r, hr⟩ : ∃ r, j = 2 + tx_oa li.length + 16 * i + r := ⟨j - (2 + tx_oa li.length + 16 * i), by omega⟩
    have hr16 : r < 16 := by omega
    rw [hr, sgF_ou hr16]
    by_cases c8 : r < 8
    · rw [if_pos c8, e1 r c8]
    · have e := e2 (r - 8) (by omega)
      rw [show 2 + tx_oa li.length + 16 * i + 8 + (r - 8) = 2 + tx_oa li.length + 16 * i + r by omega] at e
      rw [if_neg c8, e]
set_option maxHeartbeats 4000000 in
set_option maxRecDepth 100000 in
theorem c_sr_p {κ : hz_C} {z B : Nat} {M0 M1 : hz_M} {H : ho_H} (hf0 : frM B M0 M1) (hR1 : hmR M1 z B H) {h : Int32} {k : Nat} (hk0 : k < (hoI H).length) {g0 : Nat → Int32} (K : ∀ M g, sgI M1 M B (sgL (hoI H) (hoU H)) (hoE H) → fA M B 80 = g → (∀ x, x < 64 → g (2 + 73 * k + 9 + x) = sgS (hoI H) (hoU H) h k x) → (∀ q, q < 2 + 73 * k + 9 ∨ 2 + 73 * k + 9 + 64 ≤ q → g q = g0 q) → (∀ j, j < 8 → fA M B 9 j = nI (dgA (sgH (hoI H) (hoU H) h) j)) → hz_W κ xX12_sign 6 0 0 (fun r z2 M3 => some (.int (nI (sgL (hoI H) (hoU H)))) = r ∧ z = z2 ∧ frM B M0 M3 ∧ hmR M3 z B (hot H (sgT (hoI H) (hoU H) h) (hoE H))) 0 0 318 [(2, .int (nI k)), (0, .ref B)] [] z M) : ∀ n i M g, n = 8 - i → i ≤ 8 → sgI M1 M B (sgL (hoI H) (hoU H)) (hoE H) → fA M B 80 = g → (∀ x, x < 8 * i → g (2 + 73 * k + 9 + x) = sgS (hoI H) (hoU H) h k x) → (∀ q, q < 2 + 73 * k + 9 ∨ 2 + 73 * k + 9 + 64 ≤ q → g q = g0 q) → (∀ j, j < 8 → fA M B 9 j = nI (dgA (sgH (hoI H) (hoU H) h) j)) → hz_W κ xX12_sign 6 0 0 (fun r z2 M3 => some (.int (nI (sgL (hoI H) (hoU H)))) = r ∧ z = z2 ∧ frM B M0 M3 ∧ hmR M3 z B (hot H (sgT (hoI H) (hoU H) h) (hoE H))) 0 0 259 [(3, .int (nI i)), (2, .int (nI k)), (0, .ref B)] [] z M := by
  intro n
  induction n using Nat.strongRecOn with
  | ind n ih =>
  intro i M g hk hi hI hg hs ho hq
  obtain ⟨hm, hE, h95, h103⟩ := id hI
  have a7 := (hR1.2.2.2.2.2.2.1).mf hm rfl rfl rfl rfl rfl rfl rfl
  have hk : md_k B M z := hR1.1.mf hm rfl rfl
  obtain ⟨⟨fs, hO, hF⟩, -, -, h8, hz⟩ := id hk
  have g95 : fs[95]? = some (.int (nI (sgL (hoI H) (hoU H)))) := (fdB_of hO 95).symm.trans h95
  have g96 : fs[96]? = some (.int (nI (hoI H).length)) := (fdB_of hO 96).symm.trans a7.1
  have g100 : fs[100]? = some (.int (nI (hoU H).length)) := (fdB_of hO 100).symm.trans a7.2.1
  have g103 : fs[103]? = some (.int (hoE H)) := (fdB_of hO 103).symm.trans h103
  obtain ⟨-, -, d2, d3, dX, oX⟩ := id a7
  have hsb := sgL_b d2 d3
  refine hz_iloadn (pc := 259) 0 (hz_dec kX12_sign 144 rfl) rfl ?_
  refine hz_bipush (pc := 260) (v := nI 8) (hz_dec kX12_sign 145 rfl) (by decide) ?_
  refine hz_n_ge (pc := 262) (tgt := 318) (hz_dec kX12_sign 146 rfl) (by decide) (by omega) (by omega) (fun h1 => ?_) (fun h1 => ?_)
  · skip
    have e : i = 8 := by omega
    rw [e] at hs
    refine hz_pick (pc := 318) [1, 2] rfl ?_
    exact K M g hI hg hs ho hq
  · skip
    refine hz_aloadn (pc := 265) 2 (hz_dec kX12_sign 147 rfl) rfl ?_
    refine hz_get (pc := 266) (v := .ref (B + 80)) (hz_dec kX12_sign 148 rfl) fo_X12_261 hO h8 (by omega) (hF.2 94 (by decide) (by decide)) ?_
    refine hz_aloadn (pc := 269) 2 (hz_dec kX12_sign 149 rfl) rfl ?_
    refine hz_get (pc := 270) (v := .ref (B + 80)) (hz_dec kX12_sign 150 rfl) fo_X12_261 hO h8 (by omega) (hF.2 94 (by decide) (by decide)) ?_
    refine hz_iconst (pc := 273) (v := nI 0) (hz_dec kX12_sign 151 rfl) (by decide) ?_
    refine hz_iloadn (pc := 274) 1 (hz_dec kX12_sign 152 rfl) rfl ?_
    refine hz_xS (pc := 275) (As := [.ref (B + 80), .int (nI 0), .int (nI k)]) (st := [.ref (B + 80)]) (hz_dec kX12_sign 153 rfl) co_X12_485 sc_X12_inputAt (c_minputAt) rfl (by decide) ⟨Nat.le_refl _, Nat.le_refl _⟩ (Nat.le_of_ble_eq_true rfl) rfl ?_
    refine hz_bipush (pc := 278) (v := nI 9) (hz_dec kX12_sign 154 rfl) (by decide) ?_
    refine hz_addN (pc := 280) (hz_dec kX12_sign 155 rfl) ?_
    refine hz_bipush (pc := 281) (v := nI 8) (hz_dec kX12_sign 156 rfl) (by decide) ?_
    refine hz_iloadn (pc := 283) 0 (hz_dec kX12_sign 157 rfl) rfl ?_
    refine hz_mulN (pc := 284) (hz_dec kX12_sign 158 rfl) ?_
    refine hz_addN (pc := 285) (hz_dec kX12_sign 159 rfl) ?_
    refine hz_aloadn (pc := 286) 2 (hz_dec kX12_sign 160 rfl) rfl ?_
    refine hz_aloadn (pc := 287) 2 (hz_dec kX12_sign 161 rfl) rfl ?_
    refine hz_aloadn (pc := 288) 2 (hz_dec kX12_sign 162 rfl) rfl ?_
    refine hz_get (pc := 289) (v := .ref (B + 83)) (hz_dec kX12_sign 163 rfl) fo_X12_270 hO h8 (by omega) (hF.2 99 (by decide) (by decide)) ?_
    refine hz_iloadn (pc := 292) 1 (hz_dec kX12_sign 164 rfl) rfl ?_
    refine hz_lald (pc := 293) (j := k) (hz_dec kX12_sign 165 rfl) hE.a83 (by omega) (by omega) rfl (by omega) (by decide) ?_
    refine hz_eql (pc := 294) (dX k hk0).2.2 ?_
    refine hz_iloadn (pc := 294) 0 (hz_dec kX12_sign 166 rfl) rfl ?_
    have hi8 : i < 8 := h1
    refine hz_callV (pc := 295) (a := B) (As := [.long ((diL (hoI H) k).2.2), .int (nI i)]) (st := [.ref B, .int (nI (((0 + 2 + 73 * k) + 9) + (8 * i))), .ref (B + 80)]) (hz_dec kX12_sign 167 rfl) co_X12_346 im_X12_partBegin se_X12_partBegin rfl hO h8 (by omega) (c_partBegin hk hE.s (v := (diL (hoI H) k).2.2) (i := i) hi8) rfl (by decide) ⟨Nat.le_refl _, Nat.le_refl _⟩ (Nat.le_of_ble_eq_true rfl) rfl (fun r9 z9 M2 hp9 => ?_)
    obtain ⟨rfl, rfl, hf2, hs2, -⟩ := hp9
    have hm2 : mfr B [95, 103] [3, 4, 5, 6, 7, 8, 9, 80] M M2 := (mfr.ofl (ks := []) hk.1 hf2 rfl).mono rfl rfl
    have hE2_ : mdE M2 B := hE.hs (mfr.ofl (ks := []) hk.1 hf2 rfl) hs2 rfl
    have hI2 : sgI M1 M2 B (sgL (hoI H) (hoU H)) (hoE H) := ⟨hm.tr hm2, hE2_, ((mfr.ofl (ks := []) hk.1 hf2 rfl).2.2 95 rfl).trans h95, ((mfr.ofl (ks := []) hk.1 hf2 rfl).2.2 103 rfl).trans h103⟩
    have e802 : fA M2 B 80 = fA M B 80 := fA_c (hf2.at 80 rfl)
    have e92 : fA M2 B 9 = fA M B 9 := fA_c (hf2.at 9 rfl)
    obtain ⟨hm2, hE2, h952, h1032⟩ := id hI2
    have a72 := (hR1.2.2.2.2.2.2.1).mf hm2 rfl rfl rfl rfl rfl rfl rfl
    have hk2 : md_k B M2 z := hR1.1.mf hm2 rfl rfl
    obtain ⟨⟨fs2, hO2, hF2⟩, -, -, h82, hz2⟩ := id hk2
    have g952 : fs2[95]? = some (.int (nI (sgL (hoI H) (hoU H)))) := (fdB_of hO2 95).symm.trans h952
    have g962 : fs2[96]? = some (.int (nI (hoI H).length)) := (fdB_of hO2 96).symm.trans a72.1
    have g1002 : fs2[100]? = some (.int (nI (hoU H).length)) := (fdB_of hO2 100).symm.trans a72.2.1
    have g1032 : fs2[103]? = some (.int (hoE H)) := (fdB_of hO2 103).symm.trans h1032
    obtain ⟨-, -, d22, d32, dX2, oX2⟩ := id a72
    have hsb2 := sgL_b d22 d32
    refine hz_iloadn (pc := 298) 0 (hz_dec kX12_sign 168 rfl) rfl ?_
    refine hz_iconst (pc := 299) (v := nI 0) (hz_dec kX12_sign 169 rfl) (by decide) ?_
    refine hz_aloadn (pc := 300) 2 (hz_dec kX12_sign 170 rfl) rfl ?_
    refine hz_get (pc := 301) (v := .ref (B + 9)) (hz_dec kX12_sign 171 rfl) fo_X12_36 hO2 h8 (by omega) (hF2.2 10 (by decide) (by decide)) ?_
    refine hz_iloadn (pc := 304) 0 (hz_dec kX12_sign 172 rfl) rfl ?_
    refine hz_iald (pc := 305) (j := i) (hz_dec kX12_sign 173 rfl) hE2.a9 (by omega) (by omega) rfl (by omega) (by decide) ?_
    refine hz_eqi (pc := 306) (show fA M2 B 9 i = nI (dgA (sgH (hoI H) (hoU H) h) i) by rw [e92]; exact hq i hi8) ?_
    have hdg := dgA_le (sgH (hoI H) (hoU H) h) i
    refine hz_callV (pc := 306) (a := B) (As := [.long (ky_b (diL (hoI H) k).2.2 i), .int (nI i), .int (nI 0), .int (nI (dgA (sgH (hoI H) (hoU H) h) i))]) (st := [.int (nI (((0 + 2 + 73 * k) + 9) + (8 * i))), .ref (B + 80)]) (hz_dec kX12_sign 174 rfl) co_X12_350 im_X12_partSteps se_X12_partSteps rfl hO2 h8 (by omega) (c_partSteps hk2 hE2.s (v := ky_b (diL (hoI H) k).2.2 i) (i := i) (a := 0) (b := dgA (sgH (hoI H) (hoU H) h) i) hi8 (by omega) hdg) rfl (by decide) ⟨Nat.le_refl _, Nat.le_refl _⟩ (Nat.le_of_ble_eq_true rfl) rfl (fun r9 z9 M3 hp9 => ?_)
    obtain ⟨rfl, rfl, hf3, hs3, -⟩ := hp9
    have hm3 : mfr B [95, 103] [3, 4, 5, 6, 7, 8, 9, 80] M2 M3 := (mfr.ofl (ks := []) hk2.1 hf3 rfl).mono rfl rfl
    have hE3_ : mdE M3 B := hE2.hs (mfr.ofl (ks := []) hk2.1 hf3 rfl) hs3 rfl
    have hI3 : sgI M1 M3 B (sgL (hoI H) (hoU H)) (hoE H) := ⟨hm2.1 |> fun _ => (hI2.1).tr hm3, hE3_, ((mfr.ofl (ks := []) hk2.1 hf3 rfl).2.2 95 rfl).trans h952, ((mfr.ofl (ks := []) hk2.1 hf3 rfl).2.2 103 rfl).trans h1032⟩
    have e803 : fA M3 B 80 = g := (fA_c (hf3.at 80 rfl)).trans (e802.trans hg)
    have e93 : fA M3 B 9 = fA M B 9 := (fA_c (hf3.at 9 rfl)).trans e92
    obtain ⟨hm3, hE3, h953, h1033⟩ := id hI3
    have a73 := (hR1.2.2.2.2.2.2.1).mf hm3 rfl rfl rfl rfl rfl rfl rfl
    have hk3 : md_k B M3 z := hR1.1.mf hm3 rfl rfl
    obtain ⟨⟨fs3, hO3, hF3⟩, -, -, h83, hz3⟩ := id hk3
    have g953 : fs3[95]? = some (.int (nI (sgL (hoI H) (hoU H)))) := (fdB_of hO3 95).symm.trans h953
    have g963 : fs3[96]? = some (.int (nI (hoI H).length)) := (fdB_of hO3 96).symm.trans a73.1
    have g1003 : fs3[100]? = some (.int (nI (hoU H).length)) := (fdB_of hO3 100).symm.trans a73.2.1
    have g1033 : fs3[103]? = some (.int (hoE H)) := (fdB_of hO3 103).symm.trans h1033
    obtain ⟨-, -, d23, d33, dX3, oX3⟩ := id a73
    have hsb3 := sgL_b d23 d33
    have e80c : M3 (B + 80) = .inl (1, 4000, .inl g) := by rw [← e803]; exact hE3.a80
    have eat : 0 + 2 + 73 * k + 9 + 8 * i = 2 + 73 * k + 9 + 8 * i := by omega
    refine hz_callS (pc := 309) (As := [.ref (B + 80), .int (nI (((0 + 2 + 73 * k) + 9) + (8 * i))), .long (ky_ss (ky_b (diL (hoI H) k).2.2 i) i 0 (dgA (sgH (hoI H) (hoU H) h) i - 0))]) (st := []) (hz_dec kX12_sign 175 rfl) co_X12_334 sc_X12_putLong (c_putLong (at_ := 0 + 2 + 73 * k + 9 + 8 * i) (v := ky_ss (ky_b (diL (hoI H) k).2.2 i) i 0 (dgA (sgH (hoI H) (hoU H) h) i - 0)) e80c (by omega) (by omega) (by decide) (by omega)) rfl (by decide) ⟨Nat.le_refl _, Nat.le_refl _⟩ (Nat.le_of_ble_eq_true rfl) rfl (fun r9 z9 M9 hp9 => ?_)
    obtain ⟨rfl, rfl, f4, u4, v4, rfl⟩ := hp9
    rw [eat] at u4 v4
    have hI4 : sgI M1 (va_up M3 (B + 80) (.inl (1, 4000, .inl (f4)))) B (sgL (hoI H) (hoU H)) (hoE H) := ⟨hm3.tr ((mfr.rf (ks := [95, 103]) (os := [3, 4, 5, 6, 7, 8, 9, 80]) hm3.2.1).upA (o := 80) rfl (by decide)), (hE3.upA (k := 80) (t := 1) (n := 4000) (by decide)), (fdB_of (hz_mne hO3 (by omega)) 95).trans g953, (fdB_of (hz_mne hO3 (by omega)) 103).trans g1033⟩
    have e804 : fA (va_up M3 (B + 80) (.inl (1, 4000, .inl (f4)))) B 80 = f4 := fA_of (va_up_self _ _ _)
    have e94 : fA (va_up M3 (B + 80) (.inl (1, 4000, .inl (f4)))) B 9 = fA M B 9 := (fA_c (va_up_ne _ _ (by omega))).trans e93
    have hs4 : ∀ x, x < 8 * (i + 1) → f4 (2 + 73 * k + 9 + x) = sgS (hoI H) (hoU H) h k x := by
      intro x hx
      rcases (show x < 8 * i ∨ 8 * i ≤ x by omega) with c | c
      · rw [v4 _ (by omega)]; exact hs x c
      · have q := u4 (x - 8 * i) (by omega)
        rw [show 2 + 73 * k + 9 + 8 * i + (x - 8 * i) = 2 + 73 * k + 9 + x by omega] at q
        rw [q]; unfold sgS; rw [show x / 8 = i by omega, show x % 8 = x - 8 * i by omega]; rfl
    have ho4 : ∀ q, q < 2 + 73 * k + 9 ∨ 2 + 73 * k + 9 + 64 ≤ q → f4 q = g0 q := fun q hq9 => (v4 q (by omega)).trans (ho q hq9)
    refine hz_incN (pc := 312) (i := 3) (lo2 := [(3, .int (nI (i + 1))), (2, .int (nI k)), (0, .ref B)]) 0 (hz_dec kX12_sign 176 rfl) rfl (by decide) rfl ?_
    refine hz_goto (pc := 315) (tgt := 259) (hz_dec kX12_sign 177 rfl) (by decide) ?_
    refine hz_pick (pc := 259) [0, 1, 2] rfl ?_
    exact ih (8 - (i + 1)) (by omega) (i + 1) _ f4 rfl (by omega) hI4 e804 hs4 ho4 (fun j hj => by rw [e94]; exact hq j hj)
set_option maxHeartbeats 4000000 in
set_option maxRecDepth 100000 in
theorem c_sr_s {κ : hz_C} {z B : Nat} {M0 M1 : hz_M} {H : ho_H} (hf0 : frM B M0 M1) (hR1 : hmR M1 z B H) {h : Int32} : ∀ n k M g, n = (hoI H).length - k → k ≤ (hoI H).length → sgI M1 M B (sgL (hoI H) (hoU H)) (hoE H) → fA M B 80 = g → sgV (hoI H) (hoU H) h g k → (∀ j, j < 8 → fA M B 9 j = nI (dgA (sgH (hoI H) (hoU H) h) j)) → hz_W κ xX12_sign 6 0 0 (fun r z2 M3 => some (.int (nI (sgL (hoI H) (hoU H)))) = r ∧ z = z2 ∧ frM B M0 M3 ∧ hmR M3 z B (hot H (sgT (hoI H) (hoU H) h) (hoE H))) 0 0 249 [(2, .int (nI k)), (0, .ref B)] [] z M := by
  intro n
  induction n using Nat.strongRecOn with
  | ind n ih =>
  intro k M g hk_ hi hI hg hs hq
  obtain ⟨hm, hE, h95, h103⟩ := id hI
  have a7 := (hR1.2.2.2.2.2.2.1).mf hm rfl rfl rfl rfl rfl rfl rfl
  have hk : md_k B M z := hR1.1.mf hm rfl rfl
  obtain ⟨⟨fs, hO, hF⟩, -, -, h8, hz⟩ := id hk
  have g95 : fs[95]? = some (.int (nI (sgL (hoI H) (hoU H)))) := (fdB_of hO 95).symm.trans h95
  have g96 : fs[96]? = some (.int (nI (hoI H).length)) := (fdB_of hO 96).symm.trans a7.1
  have g100 : fs[100]? = some (.int (nI (hoU H).length)) := (fdB_of hO 100).symm.trans a7.2.1
  have g103 : fs[103]? = some (.int (hoE H)) := (fdB_of hO 103).symm.trans h103
  obtain ⟨-, -, d2, d3, dX, oX⟩ := id a7
  have hsb := sgL_b d2 d3
  refine hz_iloadn (pc := 249) 0 (hz_dec kX12_sign 138 rfl) rfl ?_
  refine hz_aloadn (pc := 250) 1 (hz_dec kX12_sign 139 rfl) rfl ?_
  refine hz_get (pc := 251) (v := .int (nI ((hoI H).length))) (hz_dec kX12_sign 140 rfl) fo_X12_682 hO h8 (by omega) g96 ?_
  refine hz_n_ge (pc := 254) (tgt := 324) (hz_dec kX12_sign 141 rfl) (by decide) (by omega) (by omega) (fun h1 => ?_) (fun h1 => ?_)
  · skip
    have e : k = (hoI H).length := by omega
    rw [e] at hs
    have hT := sgV_e hs
    have hR3 : hmR M z B (hot H (sgT (hoI H) (hoU H) h) (hoE H)) := hR1.tt hm hE (by rw [hg, ← hT]; exact isA_cut _ _ _) (by rw [sgT_len]; exact h95) h103
    refine hz_aloadn (pc := 324) 1 (hz_dec kX12_sign 180 rfl) rfl ?_
    refine hz_get (pc := 325) (v := .int (nI (sgL (hoI H) (hoU H)))) (hz_dec kX12_sign 181 rfl) fo_X12_679 hO h8 (by omega) g95 ?_
    exact hz_iret (pc := 328) (hz_dec kX12_sign 182 rfl) rfl ⟨rfl, rfl, hf0.tr (hm.S rfl), hR3⟩
  · skip
    refine hz_iconst (pc := 257) (v := nI 0) (hz_dec kX12_sign 142 rfl) (by decide) ?_
    refine hz_istoren (pc := 258) (i := 3) (lo2 := [(3, .int (nI 0)), (2, .int (nI k)), (0, .ref B)]) (hz_dec kX12_sign 143 rfl) rfl (by decide) rfl ?_
    refine hz_pick (pc := 259) [0, 1, 2] rfl ?_
    refine c_sr_p hf0 hR1 h1 (g0 := g) (fun M2 g2 hI2 hg2 hs2 ho2 hq2 => ?_) 8 0 M g rfl (by omega) hI hg (fun x hx => absurd hx (by omega)) (fun _ _ => rfl) hq
    refine hz_incN (pc := 318) (i := 2) (lo2 := [(2, .int (nI (k + 1))), (0, .ref B)]) 0 (hz_dec kX12_sign 178 rfl) rfl (by decide) rfl ?_
    refine hz_goto (pc := 321) (tgt := 249) (hz_dec kX12_sign 179 rfl) (by decide) ?_
    refine hz_pick (pc := 249) [0, 1] rfl ?_
    exact ih ((hoI H).length - (k + 1)) (by omega) (k + 1) M2 g2 rfl (by omega) hI2 hg2 (sgV_s h1 hs hs2 ho2) hq2
