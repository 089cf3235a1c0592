/-! assemble: the reference, the header -/
set_option maxHeartbeats 4000000 in
set_option maxRecDepth 100000 in
theorem c_rs_g {κ : hz_C} {z B : Nat} {M0 M1 : hz_M} {H : ho_H} (hf0 : frM B M0 M1) (hR1 : hmR M1 z B H) (hnn : (hoN H).length ≤ 6) {v : Nat} (hv : v < (hoN H).length) {N : nd_N} (hN : ndL (hoN H) v = N) (hup : N.2.1 = true) (hI : ksI N.1) {sd : Int64} {tm : Int32} (hW : blW (asN N tm sd)) {M : hz_M} (hX : raI M1 M B (hoT H).length (hoE H)) (hpk : (∀ i, i < cgN (ksP N.1) → fA M B 87 i = nI (cgK (poV (ksP N.1)) (ksP N.1).length i))) (hh : (∀ j, j < 80 → fA M B 80 j = if j < 32 then lf (haS (bBy (ksB N.1) (ksT N.1))) j else 0)) : hz_W κ xX12_assemble 8 0 0 (fun r z2 M3 => some (.int (nI (asN N tm sd).length)) = r ∧ z = z2 ∧ frM B M0 M3 ∧ hmR M3 z B (hot H (rpS (asN N tm sd)) (hoE H))) 0 0 266 [(10, .int (nI (eH (enB (ksB N.1)) (ksT N.1) + 1))), (7, .int (nI (cgN (ksP N.1)))), (8, .long (cgF (poV (ksP N.1)) (ksP N.1).length (cgN (ksP N.1)))), (6, .int (nI (ksT N.1))), (0, .ref B), (1, .int (nI v)), (2, .long sd), (4, .int tm)] [] z M := by
  obtain ⟨hm, hE, h95, h103⟩ := id hX
  have hk : md_k B M z := hR1.1.mf hm rfl rfl
  obtain ⟨⟨fs, hO, hF⟩, -, -, h8, hz⟩ := id hk
  have g95 : fs[95]? = some (.int (nI ((hoT H).length))) := (fdB_of hO 95).symm.trans h95
  have g103 : fs[103]? = some (.int (hoE H)) := (fdB_of hO 103).symm.trans h103
  have h0 : mdN M1 B v N := by have q := hR1.2.2.2.1 v hv; rw [hN] at q; exact q
  have hv6 : v < 6 := by omega
  have h01 : mnS M1 B v 1 N.1 (pvI (ksF N.1)) (ksP N.1) := by have q := h0.1; rw [hup] at q; exact q
  obtain ⟨p1, p2, p3, p4, ⟨p5a, p5b, p5c⟩, p6, p7, p9⟩ := id h01
  obtain ⟨b1, b2, b3, b4, b5, b6, b7, b8⟩ := id (hI.1.p hI.2.1)
  have hpw := hI.2.2.2.1
  have hp16 := hpw.1
  have hb5 := hI.2.1
  have hht := b3.ht (k := ksT N.1) (by omega)
  have hn7 : cgN (ksP N.1) ≤ 7 := Nat.min_le_left _ _
  have hnl : cgN (ksP N.1) ≤ (ksP N.1).length := Nat.min_le_right _ _
  have hxl := cgX_len hpw (cgN (ksP N.1)) hnl
  have hTl : (asN N tm sd).length = 103 + (cgX (ksP N.1) (cgN (ksP N.1))).length := asT_len _ _ _ _ _ _ _ _
  have erx : rx (ksB N.1).length (ksT N.1) = ksT N.1 := rx_lt hI.2.1
  refine hz_aloadn (pc := 266) 4 (hz_dec kX12_assemble 146 rfl) rfl ?_
  refine hz_get (pc := 267) (v := .ref (B + 80)) (hz_dec kX12_assemble 147 rfl) fo_X12_261 hO h8 (by omega) (hF.2 94 (by decide) (by decide)) ?_
  refine hz_bipush (pc := 270) (v := nI 64) (hz_dec kX12_assemble 148 rfl) (by decide) ?_
  refine hz_iload (pc := 272) 7 (hz_dec kX12_assemble 149 rfl) rfl ?_
  refine hz_callS (pc := 274) (As := [.ref (B + 80), .int (nI 64), .int tm]) (st := []) (hz_dec kX12_assemble 150 rfl) co_X12_425 sc_X12_putInt (c_putInt (at_ := 64) (v := tm) hE.a80 (by omega) (by omega) (by decide) (by decide)) rfl (by decide) ⟨Nat.le_refl _, Nat.le_refl _⟩ (Nat.le_of_ble_eq_true rfl) rfl (fun r9 z9 M9 hp9 => ?_)
  obtain ⟨rfl, rfl, g1, u1, v1, rfl⟩ := hp9
  have hX2 : raI M1 (va_up M (B + 80) (.inl (1, 4000, .inl (g1)))) B ((hoT H).length) (hoE H) := ⟨hm.tr ((mfr.rf (ks := [16, 95, 103]) (os := [3, 4, 5, 6, 7, 8, 9, 10, 11, 12, 13, 14, 15, 42, 80, 86, 87]) hm.2.1).upA (o := 80) rfl (by decide)), (hE.upA (k := 80) (t := 1) (n := 4000) (by decide)), (fdB_of (hz_mne hO (by omega)) 95).trans g95, (fdB_of (hz_mne hO (by omega)) 103).trans g103⟩
  have e802 : (va_up M (B + 80) (.inl (1, 4000, .inl (g1)))) (B + 80) = .inl (1, 4000, .inl g1) := va_up_self _ _ _
  have hpk2 : (∀ i, i < cgN (ksP N.1) → fA (va_up M (B + 80) (.inl (1, 4000, .inl (g1)))) B 87 i = nI (cgK (poV (ksP N.1)) (ksP N.1).length i)) := fun k hk => (congrFun (fA_c (va_up_ne _ _ (by omega))) k).trans (hpk k hk)
  generalize (va_up M (B + 80) (.inl (1, 4000, .inl (g1)))) = M2 at *
  obtain ⟨hm2, hE2, h952, h1032⟩ := id hX2
  have hk2 : md_k B M2 z := hR1.1.mf hm2 rfl rfl
  obtain ⟨⟨fs2, hO2, hF2⟩, -, -, h82, hz2⟩ := id hk2
  have g952 : fs2[95]? = some (.int (nI ((hoT H).length))) := (fdB_of hO2 95).symm.trans h952
  have g1032 : fs2[103]? = some (.int (hoE H)) := (fdB_of hO2 103).symm.trans h1032
  refine hz_aloadn (pc := 277) 4 (hz_dec kX12_assemble 151 rfl) rfl ?_
  refine hz_get (pc := 278) (v := .ref (B + 80)) (hz_dec kX12_assemble 152 rfl) fo_X12_261 hO2 h8 (by omega) (hF2.2 94 (by decide) (by decide)) ?_
  refine hz_bipush (pc := 281) (v := nI 68) (hz_dec kX12_assemble 153 rfl) (by decide) ?_
  refine hz_aloadn (pc := 283) 4 (hz_dec kX12_assemble 154 rfl) rfl ?_
  refine hz_iloadn (pc := 284) 5 (hz_dec kX12_assemble 155 rfl) rfl ?_
  refine hz_iload (pc := 285) 3 (hz_dec kX12_assemble 156 rfl) rfl ?_
  have hcd := c_mdue (κ := κ) hk2.1 hE2 h82 hz2 hv6 (by omega) (by omega) (p5a.mf hm2 rfl) b3 (y := ksT N.1) (by omega)
  rw [erx] at hcd
  refine hz_callV (pc := 287) (a := B) (As := [.int (nI v), .int (nI (ksT N.1))]) (st := [.int (nI 68), .ref (B + 80)]) (hz_dec kX12_assemble 157 rfl) co_X12_544 im_X12_dueBehind se_X12_dueBehind rfl hO2 h8 (by omega) (hcd) rfl (by decide) ⟨Nat.le_refl _, Nat.le_refl _⟩ (Nat.le_of_ble_eq_true rfl) rfl (fun r9 z9 M3 hp9 => ?_)
  obtain ⟨rfl, rfl, hf3, ht3⟩ := hp9
  have hm3_ : mfr B [] [10, 11] M2 M3 := mfr.ofl hk2.1 hf3 rfl
  have hE3_ : mdE M3 B := hE2.ht hm3_ ht3 rfl
  have hX3 : raI M1 M3 B ((hoT H).length) (hoE H) := ⟨hm2.tr (hm3_.mono rfl rfl), hE3_, (hm3_.2.2 95 rfl).trans h952, (hm3_.2.2 103 rfl).trans h1032⟩
  obtain ⟨hm3, hE3, h953, h1033⟩ := id hX3
  have hk3 : md_k B M3 z := hR1.1.mf hm3 rfl rfl
  obtain ⟨⟨fs3, hO3, hF3⟩, -, -, h83, hz3⟩ := id hk3
  have g953 : fs3[95]? = some (.int (nI ((hoT H).length))) := (fdB_of hO3 95).symm.trans h953
  have g1033 : fs3[103]? = some (.int (hoE H)) := (fdB_of hO3 103).symm.trans h1033
  have e803 : M3 (B + 80) = .inl (1, 4000, .inl g1) := (hf3.at 80 rfl).trans e802
  have hpk3 : (∀ i, i < cgN (ksP N.1) → fA M3 B 87 i = nI (cgK (poV (ksP N.1)) (ksP N.1).length i)) := fun k hk => (congrFun (fA_c (hf3.at 87 rfl)) k).trans (hpk2 k hk)
  refine hz_callS (pc := 290) (As := [.ref (B + 80), .int (nI 68), .int (dueE (enB (ksB N.1)) (ksT N.1))]) (st := []) (hz_dec kX12_assemble 158 rfl) co_X12_425 sc_X12_putInt (c_putInt (at_ := 68) (v := dueE (enB (ksB N.1)) (ksT N.1)) e803 (by omega) (by omega) (by decide) (by decide)) rfl (by decide) ⟨Nat.le_refl _, Nat.le_refl _⟩ (Nat.le_of_ble_eq_true rfl) rfl (fun r9 z9 M9 hp9 => ?_)
  obtain ⟨rfl, rfl, g2, u2, v2, rfl⟩ := hp9
  refine hz_aloadn (pc := 293) 4 (hz_dec kX12_assemble 159 rfl) rfl ?_
  refine hz_get (pc := 294) (v := .ref (B + 80)) (hz_dec kX12_assemble 160 rfl) fo_X12_261 (hz_mne hO3 (by omega)) h8 (by omega) (hF3.2 94 (by decide) (by decide)) ?_
  refine hz_bipush (pc := 297) (v := nI 80) (hz_dec kX12_assemble 161 rfl) (by decide) ?_
  refine hz_iload (pc := 299) 1 (hz_dec kX12_assemble 162 rfl) rfl ?_
  refine hz_iconst (pc := 301) (v := nI 1) (hz_dec kX12_assemble 163 rfl) (by decide) ?_
  refine hz_addN (pc := 302) (hz_dec kX12_assemble 164 rfl) ?_
  refine hz_i2b (pc := 303) (hz_dec kX12_assemble 165 rfl) ?_
  refine hz_bast (pc := 304) (j := 80) (hz_dec kX12_assemble 166 rfl) (va_up_self _ _ _) (by omega) (by omega) rfl (by omega) (by decide) ?_
  refine hz_aloadn (pc := 305) 4 (hz_dec kX12_assemble 167 rfl) rfl ?_
  refine hz_get (pc := 306) (v := .ref (B + 80)) (hz_dec kX12_assemble 168 rfl) fo_X12_261 (hz_mne (hz_mne hO3 (by omega)) (by omega)) h8 (by omega) (hF3.2 94 (by decide) (by decide)) ?_
  refine hz_bipush (pc := 309) (v := nI 81) (hz_dec kX12_assemble 169 rfl) (by decide) ?_
  refine hz_iconst (pc := 311) (v := nI 0) (hz_dec kX12_assemble 170 rfl) (by decide) ?_
  refine hz_bast (pc := 312) (j := 81) (hz_dec kX12_assemble 171 rfl) (va_up_self _ _ _) (by omega) (by omega) rfl (by omega) (by decide) ?_
  refine hz_aloadn (pc := 313) 4 (hz_dec kX12_assemble 172 rfl) rfl ?_
  refine hz_get (pc := 314) (v := .ref (B + 80)) (hz_dec kX12_assemble 173 rfl) fo_X12_261 (hz_mne (hz_mne (hz_mne hO3 (by omega)) (by omega)) (by omega)) h8 (by omega) (hF3.2 94 (by decide) (by decide)) ?_
  refine hz_bipush (pc := 317) (v := nI 82) (hz_dec kX12_assemble 174 rfl) (by decide) ?_
  refine hz_iconst (pc := 319) (v := nI 1) (hz_dec kX12_assemble 175 rfl) (by decide) ?_
  refine hz_bast (pc := 320) (j := 82) (hz_dec kX12_assemble 176 rfl) (va_up_self _ _ _) (by omega) (by omega) rfl (by omega) (by decide) ?_
  refine hz_aloadn (pc := 321) 4 (hz_dec kX12_assemble 177 rfl) rfl ?_
  refine hz_get (pc := 322) (v := .ref (B + 80)) (hz_dec kX12_assemble 178 rfl) fo_X12_261 (hz_mne (hz_mne (hz_mne (hz_mne hO3 (by omega)) (by omega)) (by omega)) (by omega)) h8 (by omega) (hF3.2 94 (by decide) (by decide)) ?_
  refine hz_bipush (pc := 325) (v := nI 83) (hz_dec kX12_assemble 179 rfl) (by decide) ?_
  refine hz_iload (pc := 327) 0 (hz_dec kX12_assemble 180 rfl) rfl ?_
  refine hz_callS (pc := 329) (As := [.ref (B + 80), .int (nI 83), .int (nI (eH (enB (ksB N.1)) (ksT N.1) + 1))]) (st := []) (hz_dec kX12_assemble 181 rfl) co_X12_425 sc_X12_putInt (c_putInt (at_ := 83) (v := nI (eH (enB (ksB N.1)) (ksT N.1) + 1)) (va_up_self _ _ _) (by omega) (by omega) (by decide) (by decide)) rfl (by decide) ⟨Nat.le_refl _, Nat.le_refl _⟩ (Nat.le_of_ble_eq_true rfl) rfl (fun r9 z9 M9 hp9 => ?_)
  obtain ⟨rfl, rfl, g4, u4, v4, rfl⟩ := hp9
  refine hz_aloadn (pc := 332) 4 (hz_dec kX12_assemble 182 rfl) rfl ?_
  refine hz_get (pc := 333) (v := .ref (B + 80)) (hz_dec kX12_assemble 183 rfl) fo_X12_261 (hz_mne (hz_mne (hz_mne (hz_mne (hz_mne hO3 (by omega)) (by omega)) (by omega)) (by omega)) (by omega)) h8 (by omega) (hF3.2 94 (by decide) (by decide)) ?_
  refine hz_bipush (pc := 336) (v := nI 87) (hz_dec kX12_assemble 184 rfl) (by decide) ?_
  refine hz_iload (pc := 338) 0 (hz_dec kX12_assemble 185 rfl) rfl ?_
  refine hz_xS (pc := 340) (As := [.int (nI (eH (enB (ksB N.1)) (ksT N.1) + 1))]) (st := [.int (nI 87), .ref (B + 80)]) (hz_dec kX12_assemble 186 rfl) co_X12_560 sc_X12_subsidy (c_msubs (h_ := eH (enB (ksB N.1)) (ksT N.1) + 1) (by omega)) rfl (by decide) ⟨Nat.le_refl _, Nat.le_refl _⟩ (Nat.le_of_ble_eq_true rfl) rfl ?_
  refine hz_i2l (pc := 343) (hz_dec kX12_assemble 187 rfl) ?_
  refine hz_lload (pc := 344) 2 (hz_dec kX12_assemble 188 rfl) rfl ?_
  refine hz_ladd (pc := 346) (hz_dec kX12_assemble 189 rfl) ?_
  refine hz_callS (pc := 347) (As := [.ref (B + 80), .int (nI 87), .long (((nI (subS (eH (enB (ksB N.1)) (ksT N.1) + 1))).toInt64) + (cgF (poV (ksP N.1)) (ksP N.1).length (cgN (ksP N.1))))]) (st := []) (hz_dec kX12_assemble 190 rfl) co_X12_334 sc_X12_putLong (c_putLong (at_ := 87) (v := ((nI (subS (eH (enB (ksB N.1)) (ksT N.1) + 1))).toInt64 + cgF (poV (ksP N.1)) (ksP N.1).length (cgN (ksP N.1)))) (va_up_self _ _ _) (by omega) (by omega) (by decide) (by decide)) rfl (by decide) ⟨Nat.le_refl _, Nat.le_refl _⟩ (Nat.le_of_ble_eq_true rfl) rfl (fun r9 z9 M9 hp9 => ?_)
  obtain ⟨rfl, rfl, g5, u5, v5, rfl⟩ := hp9
  have hX4 : raI M1 (va_up (va_up (va_up (va_up (va_up (va_up M3 (B + 80) (.inl (1, 4000, .inl (g2)))) (B + 80) (.inl (1, 4000, .inl (upd g2 80 (((nI ((cgN (ksP N.1)) + 1)).toInt8.toInt32).toInt8.toInt32))))) (B + 80) (.inl (1, 4000, .inl (upd (upd g2 80 (((nI ((cgN (ksP N.1)) + 1)).toInt8.toInt32).toInt8.toInt32)) 81 ((nI (0)).toInt8.toInt32))))) (B + 80) (.inl (1, 4000, .inl (upd (upd (upd g2 80 (((nI ((cgN (ksP N.1)) + 1)).toInt8.toInt32).toInt8.toInt32)) 81 ((nI (0)).toInt8.toInt32)) 82 ((nI (1)).toInt8.toInt32))))) (B + 80) (.inl (1, 4000, .inl (g4)))) (B + 80) (.inl (1, 4000, .inl (g5)))) B ((hoT H).length) (hoE H) := ⟨hm3.tr (((((((mfr.rf (ks := [16, 95, 103]) (os := [3, 4, 5, 6, 7, 8, 9, 10, 11, 12, 13, 14, 15, 42, 80, 86, 87]) hm3.2.1).upA (o := 80) rfl (by decide)).upA (o := 80) rfl (by decide)).upA (o := 80) rfl (by decide)).upA (o := 80) rfl (by decide)).upA (o := 80) rfl (by decide)).upA (o := 80) rfl (by decide)), ((((((hE3.upA (k := 80) (t := 1) (n := 4000) (by decide)).upA (k := 80) (t := 1) (n := 4000) (by decide)).upA (k := 80) (t := 1) (n := 4000) (by decide)).upA (k := 80) (t := 1) (n := 4000) (by decide)).upA (k := 80) (t := 1) (n := 4000) (by decide)).upA (k := 80) (t := 1) (n := 4000) (by decide)), (fdB_of (hz_mne (hz_mne (hz_mne (hz_mne (hz_mne (hz_mne hO3 (by omega)) (by omega)) (by omega)) (by omega)) (by omega)) (by omega)) 95).trans g953, (fdB_of (hz_mne (hz_mne (hz_mne (hz_mne (hz_mne (hz_mne hO3 (by omega)) (by omega)) (by omega)) (by omega)) (by omega)) (by omega)) 103).trans g1033⟩
  have e804 : (va_up (va_up (va_up (va_up (va_up (va_up M3 (B + 80) (.inl (1, 4000, .inl (g2)))) (B + 80) (.inl (1, 4000, .inl (upd g2 80 (((nI ((cgN (ksP N.1)) + 1)).toInt8.toInt32).toInt8.toInt32))))) (B + 80) (.inl (1, 4000, .inl (upd (upd g2 80 (((nI ((cgN (ksP N.1)) + 1)).toInt8.toInt32).toInt8.toInt32)) 81 ((nI (0)).toInt8.toInt32))))) (B + 80) (.inl (1, 4000, .inl (upd (upd (upd g2 80 (((nI ((cgN (ksP N.1)) + 1)).toInt8.toInt32).toInt8.toInt32)) 81 ((nI (0)).toInt8.toInt32)) 82 ((nI (1)).toInt8.toInt32))))) (B + 80) (.inl (1, 4000, .inl (g4)))) (B + 80) (.inl (1, 4000, .inl (g5)))) (B + 80) = .inl (1, 4000, .inl g5) := va_up_self _ _ _
  have hpk4 : (∀ i, i < cgN (ksP N.1) → fA (va_up (va_up (va_up (va_up (va_up (va_up M3 (B + 80) (.inl (1, 4000, .inl (g2)))) (B + 80) (.inl (1, 4000, .inl (upd g2 80 (((nI ((cgN (ksP N.1)) + 1)).toInt8.toInt32).toInt8.toInt32))))) (B + 80) (.inl (1, 4000, .inl (upd (upd g2 80 (((nI ((cgN (ksP N.1)) + 1)).toInt8.toInt32).toInt8.toInt32)) 81 ((nI (0)).toInt8.toInt32))))) (B + 80) (.inl (1, 4000, .inl (upd (upd (upd g2 80 (((nI ((cgN (ksP N.1)) + 1)).toInt8.toInt32).toInt8.toInt32)) 81 ((nI (0)).toInt8.toInt32)) 82 ((nI (1)).toInt8.toInt32))))) (B + 80) (.inl (1, 4000, .inl (g4)))) (B + 80) (.inl (1, 4000, .inl (g5)))) B 87 i = nI (cgK (poV (ksP N.1)) (ksP N.1).length i)) := fun k hk => (congrFun (fA_c ((va_up_ne _ _ (by omega)).trans ((va_up_ne _ _ (by omega)).trans ((va_up_ne _ _ (by omega)).trans ((va_up_ne _ _ (by omega)).trans ((va_up_ne _ _ (by omega)).trans (va_up_ne _ _ (by omega)))))))) k).trans (hpk3 k hk)
  have hg3 : ∃ g3 : Nat → Int32, g3 = upd (upd (upd g2 80 (((nI ((cgN (ksP N.1)) + 1)).toInt8.toInt32).toInt8.toInt32)) 81 ((nI (0)).toInt8.toInt32)) 82 ((nI (1)).toInt8.toInt32) := ⟨_, rfl⟩
  obtain ⟨g3, eg3⟩ := hg3
  have w0 : g3 80 = bI (nI (cgN (ksP N.1) + 1)) := by rw [eg3, upd_o (by decide), upd_o (by decide), upd_s]; rfl
  have w1 : g3 81 = 0 := by rw [eg3, upd_o (by decide), upd_s]; rfl
  have w2 : g3 82 = 1 := by rw [eg3, upd_s]; rfl
  have v3 : ∀ q, q < 80 → g3 q = g2 q := fun q hq => by rw [eg3, upd_o (by omega), upd_o (by omega), upd_o (by omega)]
  rw [← eg3] at v4
  generalize (va_up (va_up (va_up (va_up (va_up (va_up M3 (B + 80) (.inl (1, 4000, .inl (g2)))) (B + 80) (.inl (1, 4000, .inl (upd g2 80 (((nI ((cgN (ksP N.1)) + 1)).toInt8.toInt32).toInt8.toInt32))))) (B + 80) (.inl (1, 4000, .inl (upd (upd g2 80 (((nI ((cgN (ksP N.1)) + 1)).toInt8.toInt32).toInt8.toInt32)) 81 ((nI (0)).toInt8.toInt32))))) (B + 80) (.inl (1, 4000, .inl (upd (upd (upd g2 80 (((nI ((cgN (ksP N.1)) + 1)).toInt8.toInt32).toInt8.toInt32)) 81 ((nI (0)).toInt8.toInt32)) 82 ((nI (1)).toInt8.toInt32))))) (B + 80) (.inl (1, 4000, .inl (g4)))) (B + 80) (.inl (1, 4000, .inl (g5)))) = M4 at *
  obtain ⟨hm4, hE4, h954, h1034⟩ := id hX4
  have hk4 : md_k B M4 z := hR1.1.mf hm4 rfl rfl
  obtain ⟨⟨fs4, hO4, hF4⟩, -, -, h84, hz4⟩ := id hk4
  have g954 : fs4[95]? = some (.int (nI ((hoT H).length))) := (fdB_of hO4 95).symm.trans h954
  have g1034 : fs4[103]? = some (.int (hoE H)) := (fdB_of hO4 103).symm.trans h1034
  refine hz_aloadn (pc := 350) 4 (hz_dec kX12_assemble 191 rfl) rfl ?_
  refine hz_get (pc := 351) (v := .ref (B + 80)) (hz_dec kX12_assemble 192 rfl) fo_X12_261 hO4 h8 (by omega) (hF4.2 94 (by decide) (by decide)) ?_
  refine hz_bipush (pc := 354) (v := nI 95) (hz_dec kX12_assemble 193 rfl) (by decide) ?_
  refine hz_aloadn (pc := 356) 4 (hz_dec kX12_assemble 194 rfl) rfl ?_
  refine hz_lloadn (pc := 357) 6 (hz_dec kX12_assemble 195 rfl) rfl ?_
  refine hz_callV (pc := 358) (a := B) (As := [.long sd]) (st := [.int (nI 95), .ref (B + 80)]) (hz_dec kX12_assemble 196 rfl) co_X12_430 im_X12_addressOf se_X12_addressOf rfl hO4 h8 (by omega) (c_adOf hk4 hE4.s (v := sd)) rfl (by decide) ⟨Nat.le_refl _, Nat.le_refl _⟩ (Nat.le_of_ble_eq_true rfl) rfl (fun r9 z9 M5 hp9 => ?_)
  obtain ⟨rfl, rfl, hf5, hs5, -⟩ := hp9
  have hm5_ : mfr B [] [3, 4, 5, 6, 8] M4 M5 := mfr.ofl hk4.1 hf5 rfl
  have hE5_ : mdE M5 B := hE4.hs hm5_ hs5 rfl
  have hX5 : raI M1 M5 B ((hoT H).length) (hoE H) := ⟨hm4.tr (hm5_.mono rfl rfl), hE5_, (hm5_.2.2 95 rfl).trans h954, (hm5_.2.2 103 rfl).trans h1034⟩
  obtain ⟨hm5, hE5, h955, h1035⟩ := id hX5
  have hk5 : md_k B M5 z := hR1.1.mf hm5 rfl rfl
  obtain ⟨⟨fs5, hO5, hF5⟩, -, -, h85, hz5⟩ := id hk5
  have g955 : fs5[95]? = some (.int (nI ((hoT H).length))) := (fdB_of hO5 95).symm.trans h955
  have g1035 : fs5[103]? = some (.int (hoE H)) := (fdB_of hO5 103).symm.trans h1035
  have e805 : M5 (B + 80) = .inl (1, 4000, .inl g5) := (hf5.at 80 rfl).trans e804
  have hpk5 : (∀ i, i < cgN (ksP N.1) → fA M5 B 87 i = nI (cgK (poV (ksP N.1)) (ksP N.1).length i)) := fun k hk => (congrFun (fA_c (hf5.at 87 rfl)) k).trans (hpk4 k hk)
  refine hz_callS (pc := 361) (As := [.ref (B + 80), .int (nI 95), .long (ky_a sd)]) (st := []) (hz_dec kX12_assemble 197 rfl) co_X12_334 sc_X12_putLong (c_putLong (at_ := 95) (v := ky_a sd) e805 (by omega) (by omega) (by decide) (by decide)) rfl (by decide) ⟨Nat.le_refl _, Nat.le_refl _⟩ (Nat.le_of_ble_eq_true rfl) rfl (fun r9 z9 M9 hp9 => ?_)
  obtain ⟨rfl, rfl, g6, u6, v6, rfl⟩ := hp9
  refine hz_aloadn (pc := 364) 4 (hz_dec kX12_assemble 198 rfl) rfl ?_
  refine hz_bipush (pc := 365) (v := nI 103) (hz_dec kX12_assemble 199 rfl) (by decide) ?_
  refine hz_puti (pc := 367) (hz_dec kX12_assemble 200 rfl) fo_X12_679 ft_X12_95 (hz_mne hO5 (by omega)) h8 (by omega) (by rw [hF5.1]; decide) ?_
  have hX6 : raI M1 (va_up (va_up M5 (B + 80) (.inl (1, 4000, .inl (g6)))) B (.inr (12, (List.set fs5 95 (.int (nI 103)))))) B (103) (hoE H) := ⟨hm5.tr (((mfr.rf (ks := [16, 95, 103]) (os := [3, 4, 5, 6, 7, 8, 9, 10, 11, 12, 13, 14, 15, 42, 80, 86, 87]) hm5.2.1).upA (o := 80) rfl (by decide)).upO (k := 95) (hz_mne hO5 (by omega)) hF5 rfl rfl), ((hE5.upA (k := 80) (t := 1) (n := 4000) (by decide)).upO), (fdB_of (va_up_self _ _ _) 95).trans (List.getElem?_set_self (by rw [hF5.1]; decide)), (fdB_of (va_up_self _ _ _) 103).trans ((List.getElem?_set_ne (by decide)).trans g1035)⟩
  have e806 : fA (va_up (va_up M5 (B + 80) (.inl (1, 4000, .inl (g6)))) B (.inr (12, (List.set fs5 95 (.int (nI 103)))))) B 80 = g6 := fA_of (hz_mne (va_up_self _ _ _) (by omega))
  have hpk6 : (∀ i, i < cgN (ksP N.1) → fA (va_up (va_up M5 (B + 80) (.inl (1, 4000, .inl (g6)))) B (.inr (12, (List.set fs5 95 (.int (nI 103)))))) B 87 i = nI (cgK (poV (ksP N.1)) (ksP N.1).length i)) := fun k hk => (congrFun (fA_c ((va_up_ne _ _ (by omega)).trans (va_up_ne _ _ (by omega)))) k).trans (hpk5 k hk)
  refine hz_iconst (pc := 370) (v := nI 0) (hz_dec kX12_assemble 201 rfl) (by decide) ?_
  refine hz_istore (pc := 371) (i := 11) (lo2 := [(11, .int (nI 0)), (10, .int (nI (eH (enB (ksB N.1)) (ksT N.1) + 1))), (7, .int (nI (cgN (ksP N.1)))), (8, .long (cgF (poV (ksP N.1)) (ksP N.1).length (cgN (ksP N.1)))), (6, .int (nI (ksT N.1))), (0, .ref B), (1, .int (nI v)), (2, .long sd), (4, .int tm)]) (hz_dec kX12_assemble 202 rfl) (by decide) rfl ?_
  refine hz_pick (pc := 373) [0, 2, 5, 6] rfl ?_
  exact c_rs_o hf0 hR1 hnn hv hN hup hI hW (cgN (ksP N.1)) 0 _ rfl (by omega) hX6 hpk6 (by rw [e806]; exact asH_z hh u1 v1 u2 v2 w0 w1 w2 v3 u4 v4 u5 v5 u6 v6) (isA_nil _ _)
set_option maxHeartbeats 4000000 in
set_option maxRecDepth 100000 in
theorem c_rs_h {κ : hz_C} {z B : Nat} {M0 M1 : hz_M} {H : ho_H} (hf0 : frM B M0 M1) (hR1 : hmR M1 z B H) (hnn : (hoN H).length ≤ 6) {v : Nat} (hv : v < (hoN H).length) {N : nd_N} (hN : ndL (hoN H) v = N) (hup : N.2.1 = true) (hI : ksI N.1) {sd : Int64} {tm : Int32} (hW : blW (asN N tm sd)) : ∀ n i M, n = 80 - i → i ≤ 80 → raI M1 M B (hoT H).length (hoE H) → (∀ i, i < cgN (ksP N.1) → fA M B 87 i = nI (cgK (poV (ksP N.1)) (ksP N.1).length i)) → (∀ j, j < i → fA M B 80 j = if j < 32 then lf (haS (bBy (ksB N.1) (ksT N.1))) j else 0) → hz_W κ xX12_assemble 8 0 0 (fun r z2 M3 => some (.int (nI (asN N tm sd).length)) = r ∧ z = z2 ∧ frM B M0 M3 ∧ hmR M3 z B (hot H (rpS (asN N tm sd)) (hoE H))) 0 0 218 [(11, .int (nI i)), (10, .int (nI (eH (enB (ksB N.1)) (ksT N.1) + 1))), (7, .int (nI (cgN (ksP N.1)))), (8, .long (cgF (poV (ksP N.1)) (ksP N.1).length (cgN (ksP N.1)))), (6, .int (nI (ksT N.1))), (0, .ref B), (1, .int (nI v)), (2, .long sd), (4, .int tm)] [] z M := by
  intro n
  induction n using Nat.strongRecOn with
  | ind n ih =>
  intro i M hn hi hX hpk hh
  obtain ⟨hm, hE, h95, h103⟩ := id hX
  have hk : md_k B M z := hR1.1.mf hm rfl rfl
  obtain ⟨⟨fs, hO, hF⟩, -, -, h8, hz⟩ := id hk
  have g95 : fs[95]? = some (.int (nI ((hoT H).length))) := (fdB_of hO 95).symm.trans h95
  have g103 : fs[103]? = some (.int (hoE H)) := (fdB_of hO 103).symm.trans h103
  have h0 : mdN M1 B v N := by have q := hR1.2.2.2.1 v hv; rw [hN] at q; exact q
  have hv6 : v < 6 := by omega
  have h01 : mnS M1 B v 1 N.1 (pvI (ksF N.1)) (ksP N.1) := by have q := h0.1; rw [hup] at q; exact q
  obtain ⟨p1, p2, p3, p4, ⟨p5a, p5b, p5c⟩, p6, p7, p9⟩ := id h01
  obtain ⟨b1, b2, b3, b4, b5, b6, b7, b8⟩ := id (hI.1.p hI.2.1)
  have hpw := hI.2.2.2.1
  have hp16 := hpw.1
  have hb5 := hI.2.1
  have hht := b3.ht (k := ksT N.1) (by omega)
  have hn7 : cgN (ksP N.1) ≤ 7 := Nat.min_le_left _ _
  have hnl : cgN (ksP N.1) ≤ (ksP N.1).length := Nat.min_le_right _ _
  have hxl := cgX_len hpw (cgN (ksP N.1)) hnl
  have hTl : (asN N tm sd).length = 103 + (cgX (ksP N.1) (cgN (ksP N.1))).length := asT_len _ _ _ _ _ _ _ _
  refine hz_bytes hE.a30 (by omega) (by omega) (fun hby => ?_)
  have h30 : isA (fA M B 30) (32 * (128 * v + ksT N.1)) (haS (bBy (ksB N.1) (ksT N.1))) := by rw [fA_m hm (by decide) rfl]; exact (p5b.2.2 (ksT N.1) hb5).2.1
  have h32 := haS_len (bBy (ksB N.1) (ksT N.1))
  refine hz_iload (pc := 218) 0 (hz_dec kX12_assemble 122 rfl) rfl ?_
  refine hz_bipush (pc := 220) (v := nI 80) (hz_dec kX12_assemble 123 rfl) (by decide) ?_
  refine hz_n_ge (pc := 222) (tgt := 266) (hz_dec kX12_assemble 124 rfl) (by decide) (by omega) (by omega) (fun h1 => ?_) (fun h1 => ?_)
  · skip
    have e : i = 80 := by omega
    subst e
    refine hz_pick (pc := 266) [1, 2, 3, 4, 5, 6, 7, 8] rfl ?_
    exact c_rs_g hf0 hR1 hnn hv hN hup hI hW hX hpk hh
  · skip
    refine hz_aloadn (pc := 225) 5 (hz_dec kX12_assemble 125 rfl) rfl ?_
    refine hz_get (pc := 226) (v := .ref (B + 80)) (hz_dec kX12_assemble 126 rfl) fo_X12_261 hO h8 (by omega) (hF.2 94 (by decide) (by decide)) ?_
    refine hz_iload (pc := 229) 0 (hz_dec kX12_assemble 127 rfl) rfl ?_
    refine hz_iload (pc := 231) 0 (hz_dec kX12_assemble 128 rfl) rfl ?_
    refine hz_bipush (pc := 233) (v := nI 32) (hz_dec kX12_assemble 129 rfl) (by decide) ?_
    refine hz_n_ge (pc := 235) (tgt := 258) (hz_dec kX12_assemble 130 rfl) (by decide) (by omega) (by omega) (fun h2 => ?_) (fun h2 => ?_)
    · skip
      refine hz_iconst (pc := 258) (v := nI 0) (hz_dec kX12_assemble 142 rfl) (by decide) ?_
      refine hz_bast (pc := 259) (j := i) (hz_dec kX12_assemble 143 rfl) hE.a80 (by omega) (by omega) rfl (by omega) (by decide) ?_
      have hX2 : raI M1 (va_up M (B + 80) (.inl (1, 4000, .inl (upd (fA M B 80) i ((nI (0)).toInt8.toInt32))))) B ((hoT H).length) (hoE H) := ⟨hm.tr ((mfr.rf (ks := [16, 95, 103]) (os := [3, 4, 5, 6, 7, 8, 9, 10, 11, 12, 13, 14, 15, 42, 80, 86, 87]) hm.2.1).upA (o := 80) rfl (by decide)), (hE.upA (k := 80) (t := 1) (n := 4000) (by decide)), (fdB_of (hz_mne hO (by omega)) 95).trans g95, (fdB_of (hz_mne hO (by omega)) 103).trans g103⟩
      refine hz_incN (pc := 260) (i := 11) (lo2 := [(11, .int (nI (i + 1))), (10, .int (nI (eH (enB (ksB N.1)) (ksT N.1) + 1))), (7, .int (nI (cgN (ksP N.1)))), (8, .long (cgF (poV (ksP N.1)) (ksP N.1).length (cgN (ksP N.1)))), (6, .int (nI (ksT N.1))), (0, .ref B), (1, .int (nI v)), (2, .long sd), (4, .int tm)]) 0 (hz_dec kX12_assemble 144 rfl) rfl (by decide) rfl ?_
      refine hz_goto (pc := 263) (tgt := 218) (hz_dec kX12_assemble 145 rfl) (by decide) ?_
      refine hz_pick (pc := 218) [0, 1, 2, 3, 4, 5, 6, 7, 8] rfl ?_
      refine ih (80 - (i + 1)) (by omega) (i + 1) _ rfl (by omega) hX2 (fun k hk => (congrFun (fA_c (va_up_ne _ _ (by omega))) k).trans (hpk k hk)) ?_
      rw [fA_of (va_up_self _ _ _)]; intro j hj
      rcases (show j = i ∨ j < i by omega) with c | c
      · rw [c, upd_s]; rw [if_neg (by omega)]; rfl
      · rw [upd_o (by omega)]; exact hh j c
    · skip
      refine hz_aloadn (pc := 238) 5 (hz_dec kX12_assemble 131 rfl) rfl ?_
      refine hz_get (pc := 239) (v := .ref (B + 30)) (hz_dec kX12_assemble 132 rfl) fo_X12_101 hO h8 (by omega) (hF.2 32 (by decide) (by decide)) ?_
      refine hz_bipush (pc := 242) (v := nI 32) (hz_dec kX12_assemble 133 rfl) (by decide) ?_
      refine hz_iloadn (pc := 244) 6 (hz_dec kX12_assemble 134 rfl) rfl ?_
      refine hz_iload (pc := 245) 4 (hz_dec kX12_assemble 135 rfl) rfl ?_
      refine hz_xS (pc := 247) (As := [.int (nI v), .int (nI (ksT N.1))]) (st := [.int (nI 32), .ref (B + 30), .int (nI i), .ref (B + 80)]) (hz_dec kX12_assemble 136 rfl) co_X12_419 sc_X12_at0 (c_at0 (v := v) (y := ksT N.1)) rfl (by decide) ⟨Nat.le_refl _, Nat.le_refl _⟩ (Nat.le_of_ble_eq_true rfl) rfl ?_
      refine hz_mulN (pc := 250) (hz_dec kX12_assemble 137 rfl) ?_
      refine hz_iload (pc := 251) 0 (hz_dec kX12_assemble 138 rfl) rfl ?_
      refine hz_addN (pc := 253) (hz_dec kX12_assemble 139 rfl) ?_
      refine hz_bald (pc := 254) (j := (32 * (128 * v + ksT N.1)) + i) (hz_dec kX12_assemble 140 rfl) hE.a30 (by omega) (by omega) rfl (by omega) (by decide) ?_
      refine hz_goto (pc := 255) (tgt := 259) (hz_dec kX12_assemble 141 rfl) (by decide) ?_
      refine hz_bast (pc := 259) (j := i) (hz_dec kX12_assemble 143 rfl) hE.a80 (by omega) (by omega) rfl (by omega) (by decide) ?_
      have hX2 : raI M1 (va_up M (B + 80) (.inl (1, 4000, .inl (upd (fA M B 80) i (((fA M B 30) ((32 * (128 * v + ksT N.1)) + i)).toInt8.toInt32))))) B ((hoT H).length) (hoE H) := ⟨hm.tr ((mfr.rf (ks := [16, 95, 103]) (os := [3, 4, 5, 6, 7, 8, 9, 10, 11, 12, 13, 14, 15, 42, 80, 86, 87]) hm.2.1).upA (o := 80) rfl (by decide)), (hE.upA (k := 80) (t := 1) (n := 4000) (by decide)), (fdB_of (hz_mne hO (by omega)) 95).trans g95, (fdB_of (hz_mne hO (by omega)) 103).trans g103⟩
      refine hz_incN (pc := 260) (i := 11) (lo2 := [(11, .int (nI (i + 1))), (10, .int (nI (eH (enB (ksB N.1)) (ksT N.1) + 1))), (7, .int (nI (cgN (ksP N.1)))), (8, .long (cgF (poV (ksP N.1)) (ksP N.1).length (cgN (ksP N.1)))), (6, .int (nI (ksT N.1))), (0, .ref B), (1, .int (nI v)), (2, .long sd), (4, .int tm)]) 0 (hz_dec kX12_assemble 144 rfl) rfl (by decide) rfl ?_
      refine hz_goto (pc := 263) (tgt := 218) (hz_dec kX12_assemble 145 rfl) (by decide) ?_
      refine hz_pick (pc := 218) [0, 1, 2, 3, 4, 5, 6, 7, 8] rfl ?_
      refine ih (80 - (i + 1)) (by omega) (i + 1) _ rfl (by omega) hX2 (fun k hk => (congrFun (fA_c (va_up_ne _ _ (by omega))) k).trans (hpk k hk)) ?_
      rw [fA_of (va_up_self _ _ _)]; intro j hj
      rcases (show j = i ∨ j < i by omega) with c | c
      · rw [c, upd_s]; rw [if_pos (by omega), hby _ (by omega)]; exact h30 i (by omega)
      · rw [upd_o (by omega)]; exact hh j c
set_option maxHeartbeats 4000000 in
set_option maxRecDepth 100000 in
theorem c_rasmB {κ : hz_C} {z B : Nat} {M : hz_M} {H : ho_H} (hnn : (hoN H).length ≤ 6) (hT4 : (hoT H).length ≤ 4000) (hR : hmR M z B H) {v : Nat} (hv : v < (hoN H).length) {N : nd_N} (hN : ndL (hoN H) v = N) (hup : N.2.1 = true) (hI : ksI N.1) {sd : Int64} {tm : Int32} (htm : ¬ midE (enB (ksB N.1)) (ksT N.1) < tm) : hz_Mt κ xX12_assemble 8 0 0 [.ref B, .int (nI v), .long sd, .int tm] z M (hmP M z B (.int (-1)) H) := by
  refine hz_ent (lo := [(0, .ref B), (1, .int (nI v)), (2, .long sd), (4, .int tm)]) (by decide) (Nat.le_of_ble_eq_true rfl) rfl ?_
  obtain ⟨hk0_, hE0, ⟨m1, m2, m3⟩, hNd, a5, a6, a7, a8⟩ := id hR
  obtain ⟨⟨fs, hO, hF⟩, -, -, h8, hz⟩ := id hk0_
  obtain ⟨x1, x3, x4, x5, x6, x7, x8⟩ := id m3
  have eSt : stI (ndL (hoN H) v).2.1 = nI 0 := by rw [hN, hup]; rfl
  refine hz_aloadn (pc := 0) 0 (hz_dec kX12_assemble 0 rfl) rfl ?_
  refine hz_iconst (pc := 1) (v := nI 0) (hz_dec kX12_assemble 1 rfl) (by decide) ?_
  refine hz_puti (pc := 2) (hz_dec kX12_assemble 2 rfl) fo_X12_302 ft_X12_0 hO h8 (by omega) (by rw [hF.1]; decide) ?_
  have hf1 : mfr B [0, 89] [] M (va_up M B (.inr (12, (List.set fs 0 (.int (nI 0)))))) := (mfr.rf ⟨fs, hO, hF⟩).upO (k := 0) hO hF rfl rfl
  have hR1 : hmR (va_up M B (.inr (12, (List.set fs 0 (.int (nI 0)))))) z B H := hR.m0 hf1 hE0.upO ((fdB_of (va_up_self _ _ _) 89).trans ((List.getElem?_set_ne (by decide)).trans ((fdB_of hO 89).symm.trans x8)))
  generalize (va_up M B (.inr (12, (List.set fs 0 (.int (nI 0)))))) = M1 at *
  obtain ⟨hk1, hE1, ⟨n1, d1, q1⟩, hNd1, a51, a61, a71, a81⟩ := id hR1
  obtain ⟨⟨fs1, hO1, hF1⟩, -, -, -, -⟩ := id hk1
  have h0 : mdN M1 B v N := by have q := hNd1 v hv; rw [hN] at q; exact q
  have hv6 : v < 6 := by omega
  have h01 : mnS M1 B v 1 N.1 (pvI (ksF N.1)) (ksP N.1) := by have q := h0.1; rw [hup] at q; exact q
  have h02 : orX (fA M1 B) v (mkO (ksL N.1)) := by have q := h0.2.1; rw [hup] at q; exact q
  obtain ⟨p1, p2, p3, p4, ⟨p5a, p5b, p5c⟩, p6, p7, p9⟩ := id h01
  have hbp := hI.1.p hI.2.1
  obtain ⟨b1, b2, b3, b4, b5, b6, b7, b8⟩ := id hbp
  have hb5 := hI.2.1
  have hht := b3.ht (k := ksT N.1) (by omega)
  have erx : rx (ksB N.1).length (ksT N.1) = ksT N.1 := rx_lt hI.2.1
  refine hz_aloadn (pc := 5) 0 (hz_dec kX12_assemble 3 rfl) rfl ?_
  refine hz_iloadn (pc := 6) 1 (hz_dec kX12_assemble 4 rfl) rfl ?_
  refine hz_xV (pc := 7) (a := B) (As := [.int (nI v)]) (st := []) (hz_dec kX12_assemble 5 rfl) co_X12_692 im_X12_stateOf se_X12_stateOf rfl hO1 h8 (by omega) (c_st hnn hR1 hv) rfl (by decide) ⟨Nat.le_refl _, Nat.le_refl _⟩ (Nat.le_of_ble_eq_true rfl) rfl ?_
  refine hz_eqi (pc := 10) eSt ?_
  refine hz_istore (pc := 10) (i := 5) (lo2 := [(5, .int (nI 0)), (0, .ref B), (1, .int (nI v)), (2, .long sd), (4, .int tm)]) (hz_dec kX12_assemble 6 rfl) (by decide) rfl ?_
  refine hz_iload (pc := 12) 0 (hz_dec kX12_assemble 7 rfl) rfl ?_
  refine hz_z_ge (pc := 14) (tgt := 20) (hz_dec kX12_assemble 8 rfl) (by decide) (by omega) ?_
  refine hz_aloadn (pc := 20) 1 (hz_dec kX12_assemble 11 rfl) rfl ?_
  refine hz_get (pc := 21) (v := .ref (B + 21)) (hz_dec kX12_assemble 12 rfl) fo_X12_74 hO1 h8 (by omega) (hF1.2 23 (by decide) (by decide)) ?_
  refine hz_iloadn (pc := 24) 2 (hz_dec kX12_assemble 13 rfl) rfl ?_
  refine hz_iald (pc := 25) (j := v) (hz_dec kX12_assemble 14 rfl) hE1.a21 (by omega) (by omega) rfl (by omega) (by decide) ?_
  refine hz_eqi (pc := 26) p5b.2.1 ?_
  refine hz_istore (pc := 26) (i := 6) (lo2 := [(6, .int (nI (ksT N.1))), (5, .int (nI 0)), (0, .ref B), (1, .int (nI v)), (2, .long sd), (4, .int tm)]) (hz_dec kX12_assemble 15 rfl) (by decide) rfl ?_
  refine hz_iload (pc := 28) 5 (hz_dec kX12_assemble 16 rfl) rfl ?_
  refine hz_aloadn (pc := 30) 2 (hz_dec kX12_assemble 17 rfl) rfl ?_
  refine hz_iloadn (pc := 31) 3 (hz_dec kX12_assemble 18 rfl) rfl ?_
  refine hz_iload (pc := 32) 0 (hz_dec kX12_assemble 19 rfl) rfl ?_
  have hcd := c_mmid (κ := κ) hk1.1 hE1 h8 hz hv6 (by omega) (by omega) p5a b3 (y := ksT N.1) (by omega)
  rw [erx] at hcd
  refine hz_callV (pc := 34) (a := B) (As := [.int (nI v), .int (nI (ksT N.1))]) (st := [.int tm]) (hz_dec kX12_assemble 20 rfl) co_X12_547 im_X12_middleBehind se_X12_middleBehind rfl hO1 h8 (by omega) (hcd) rfl (by decide) ⟨Nat.le_refl _, Nat.le_refl _⟩ (Nat.le_of_ble_eq_true rfl) rfl (fun r9 z9 M2 hp9 => ?_)
  obtain ⟨rfl, rfl, f9, rfl⟩ := hp9
  have hm2 : mfr B [] [42] M1 (va_up M1 (B + 42) (.inl (0, 11, .inl f9))) := (mfr.rf hk1.1).upA rfl (by decide)
  have hR2 : hmR (va_up M1 (B + 42) (.inl (0, 11, .inl f9))) z B H := hR1.sc hm2 (hE1.upA (by decide)) rfl rfl rfl rfl rfl rfl rfl rfl rfl rfl rfl rfl rfl rfl rfl rfl rfl rfl rfl
  have hfz : frM B M (va_up M1 (B + 42) (.inl (0, 11, .inl f9))) := (hf1.S rfl).tr (hm2.S rfl)
  generalize (va_up M1 (B + 42) (.inl (0, 11, .inl f9))) = M2 at *
  refine hz_icmp_gt (pc := 37) (tgt := 42) (hz_dec kX12_assemble 21 rfl) (by decide) (fun h1 => ?_) (fun h1 => ?_)
  · skip
    exact absurd h1 htm
  · skip
    refine hz_iconst (pc := 40) (v := (-1)) (hz_dec kX12_assemble 22 rfl) (by decide) ?_
    exact hz_iret (pc := 41) (hz_dec kX12_assemble 23 rfl) rfl ⟨rfl, rfl, hfz, hR2⟩
set_option maxHeartbeats 4000000 in
set_option maxRecDepth 100000 in
theorem c_rasm {κ : hz_C} {z B : Nat} {M : hz_M} {H : ho_H} (hnn : (hoN H).length ≤ 6) (hT4 : (hoT H).length ≤ 4000) (hR : hmR M z B H) {v : Nat} (hv : v < (hoN H).length) {N : nd_N} (hN : ndL (hoN H) v = N) (hup : N.2.1 = true) (hI : ksI N.1) {sd : Int64} {tm : Int32} (htm : midE (enB (ksB N.1)) (ksT N.1) < tm) : hz_Mt κ xX12_assemble 8 0 0 [.ref B, .int (nI v), .long sd, .int tm] z M (hmP M z B (.int (nI (asN N tm sd).length)) (hot H (rpS (asN N tm sd)) (hoE H))) := by
  refine hz_ent (lo := [(0, .ref B), (1, .int (nI v)), (2, .long sd), (4, .int tm)]) (by decide) (Nat.le_of_ble_eq_true rfl) rfl ?_
  obtain ⟨hk0_, hE0, ⟨m1, m2, m3⟩, hNd, a5, a6, a7, a8⟩ := id hR
  obtain ⟨⟨fs, hO, hF⟩, -, -, h8, hz⟩ := id hk0_
  obtain ⟨x1, x3, x4, x5, x6, x7, x8⟩ := id m3
  have eSt : stI (ndL (hoN H) v).2.1 = nI 0 := by rw [hN, hup]; rfl
  refine hz_aloadn (pc := 0) 0 (hz_dec kX12_assemble 0 rfl) rfl ?_
  refine hz_iconst (pc := 1) (v := nI 0) (hz_dec kX12_assemble 1 rfl) (by decide) ?_
  refine hz_puti (pc := 2) (hz_dec kX12_assemble 2 rfl) fo_X12_302 ft_X12_0 hO h8 (by omega) (by rw [hF.1]; decide) ?_
  have hf1 : mfr B [0, 89] [] M (va_up M B (.inr (12, (List.set fs 0 (.int (nI 0)))))) := (mfr.rf ⟨fs, hO, hF⟩).upO (k := 0) hO hF rfl rfl
  have hR1 : hmR (va_up M B (.inr (12, (List.set fs 0 (.int (nI 0)))))) z B H := hR.m0 hf1 hE0.upO ((fdB_of (va_up_self _ _ _) 89).trans ((List.getElem?_set_ne (by decide)).trans ((fdB_of hO 89).symm.trans x8)))
  generalize (va_up M B (.inr (12, (List.set fs 0 (.int (nI 0)))))) = M1 at *
  obtain ⟨hk1, hE1, ⟨n1, d1, q1⟩, hNd1, a51, a61, a71, a81⟩ := id hR1
  obtain ⟨⟨fs1, hO1, hF1⟩, -, -, -, -⟩ := id hk1
  have h0 : mdN M1 B v N := by have q := hNd1 v hv; rw [hN] at q; exact q
  have hv6 : v < 6 := by omega
  have h01 : mnS M1 B v 1 N.1 (pvI (ksF N.1)) (ksP N.1) := by have q := h0.1; rw [hup] at q; exact q
  have h02 : orX (fA M1 B) v (mkO (ksL N.1)) := by have q := h0.2.1; rw [hup] at q; exact q
  obtain ⟨p1, p2, p3, p4, ⟨p5a, p5b, p5c⟩, p6, p7, p9⟩ := id h01
  have hbp := hI.1.p hI.2.1
  obtain ⟨b1, b2, b3, b4, b5, b6, b7, b8⟩ := id hbp
  have hb5 := hI.2.1
  have hht := b3.ht (k := ksT N.1) (by omega)
  have erx : rx (ksB N.1).length (ksT N.1) = ksT N.1 := rx_lt hI.2.1
  refine hz_aloadn (pc := 5) 0 (hz_dec kX12_assemble 3 rfl) rfl ?_
  refine hz_iloadn (pc := 6) 1 (hz_dec kX12_assemble 4 rfl) rfl ?_
  refine hz_xV (pc := 7) (a := B) (As := [.int (nI v)]) (st := []) (hz_dec kX12_assemble 5 rfl) co_X12_692 im_X12_stateOf se_X12_stateOf rfl hO1 h8 (by omega) (c_st hnn hR1 hv) rfl (by decide) ⟨Nat.le_refl _, Nat.le_refl _⟩ (Nat.le_of_ble_eq_true rfl) rfl ?_
  refine hz_eqi (pc := 10) eSt ?_
  refine hz_istore (pc := 10) (i := 5) (lo2 := [(5, .int (nI 0)), (0, .ref B), (1, .int (nI v)), (2, .long sd), (4, .int tm)]) (hz_dec kX12_assemble 6 rfl) (by decide) rfl ?_
  refine hz_iload (pc := 12) 0 (hz_dec kX12_assemble 7 rfl) rfl ?_
  refine hz_z_ge (pc := 14) (tgt := 20) (hz_dec kX12_assemble 8 rfl) (by decide) (by omega) ?_
  refine hz_aloadn (pc := 20) 1 (hz_dec kX12_assemble 11 rfl) rfl ?_
  refine hz_get (pc := 21) (v := .ref (B + 21)) (hz_dec kX12_assemble 12 rfl) fo_X12_74 hO1 h8 (by omega) (hF1.2 23 (by decide) (by decide)) ?_
  refine hz_iloadn (pc := 24) 2 (hz_dec kX12_assemble 13 rfl) rfl ?_
  refine hz_iald (pc := 25) (j := v) (hz_dec kX12_assemble 14 rfl) hE1.a21 (by omega) (by omega) rfl (by omega) (by decide) ?_
  refine hz_eqi (pc := 26) p5b.2.1 ?_
  refine hz_istore (pc := 26) (i := 6) (lo2 := [(6, .int (nI (ksT N.1))), (5, .int (nI 0)), (0, .ref B), (1, .int (nI v)), (2, .long sd), (4, .int tm)]) (hz_dec kX12_assemble 15 rfl) (by decide) rfl ?_
  refine hz_iload (pc := 28) 5 (hz_dec kX12_assemble 16 rfl) rfl ?_
  refine hz_aloadn (pc := 30) 2 (hz_dec kX12_assemble 17 rfl) rfl ?_
  refine hz_iloadn (pc := 31) 3 (hz_dec kX12_assemble 18 rfl) rfl ?_
  refine hz_iload (pc := 32) 0 (hz_dec kX12_assemble 19 rfl) rfl ?_
  have hcd := c_mmid (κ := κ) hk1.1 hE1 h8 hz hv6 (by omega) (by omega) p5a b3 (y := ksT N.1) (by omega)
  rw [erx] at hcd
  refine hz_callV (pc := 34) (a := B) (As := [.int (nI v), .int (nI (ksT N.1))]) (st := [.int tm]) (hz_dec kX12_assemble 20 rfl) co_X12_547 im_X12_middleBehind se_X12_middleBehind rfl hO1 h8 (by omega) (hcd) rfl (by decide) ⟨Nat.le_refl _, Nat.le_refl _⟩ (Nat.le_of_ble_eq_true rfl) rfl (fun r9 z9 M2 hp9 => ?_)
  obtain ⟨rfl, rfl, f9, rfl⟩ := hp9
  have hm2 : mfr B [] [42] M1 (va_up M1 (B + 42) (.inl (0, 11, .inl f9))) := (mfr.rf hk1.1).upA rfl (by decide)
  have hR2 : hmR (va_up M1 (B + 42) (.inl (0, 11, .inl f9))) z B H := hR1.sc hm2 (hE1.upA (by decide)) rfl rfl rfl rfl rfl rfl rfl rfl rfl rfl rfl rfl rfl rfl rfl rfl rfl rfl rfl
  have hfz : frM B M (va_up M1 (B + 42) (.inl (0, 11, .inl f9))) := (hf1.S rfl).tr (hm2.S rfl)
  generalize (va_up M1 (B + 42) (.inl (0, 11, .inl f9))) = M2 at *
  obtain ⟨hk2, hE2, ⟨n2, d2, q2⟩, hNd2, a52, a62, a72, a82⟩ := id hR2
  obtain ⟨⟨fs2, hO2, hF2⟩, -, -, -, -⟩ := id hk2
  refine hz_icmp_gt (pc := 37) (tgt := 42) (hz_dec kX12_assemble 21 rfl) (by decide) (fun h1 => ?_) (fun h1 => ?_)
  · skip
    have h02_ : mdN M2 B v N := by have q := hNd2 v hv; rw [hN] at q; exact q
    have h012 : mnS M2 B v 1 N.1 (pvI (ksF N.1)) (ksP N.1) := by have q := h02_.1; rw [hup] at q; exact q
    have hW : blW (asN N tm sd) := asT_W hI.2.2.2.1 (tm_nn (midE_pos b3 (by omega)) htm) (by omega)
    refine hz_iconst (pc := 42) (v := nI 0) (hz_dec kX12_assemble 24 rfl) (by decide) ?_
    refine hz_istore (pc := 43) (i := 7) (lo2 := [(7, .int (nI 0)), (6, .int (nI (ksT N.1))), (5, .int (nI 0)), (0, .ref B), (1, .int (nI v)), (2, .long sd), (4, .int tm)]) (hz_dec kX12_assemble 25 rfl) (by decide) rfl ?_
    refine hz_lconst (pc := 45) (v := 0) (hz_dec kX12_assemble 26 rfl) (by decide) ?_
    refine hz_lstore (pc := 46) (i := 8) (lo2 := [(8, .long 0), (7, .int (nI 0)), (6, .int (nI (ksT N.1))), (5, .int (nI 0)), (0, .ref B), (1, .int (nI v)), (2, .long sd), (4, .int tm)]) (hz_dec kX12_assemble 27 rfl) (by decide) rfl ?_
    refine hz_iconst (pc := 48) (v := nI 0) (hz_dec kX12_assemble 28 rfl) (by decide) ?_
    refine hz_istore (pc := 49) (i := 10) (lo2 := [(10, .int (nI 0)), (8, .long 0), (7, .int (nI 0)), (6, .int (nI (ksT N.1))), (5, .int (nI 0)), (0, .ref B), (1, .int (nI v)), (2, .long sd), (4, .int tm)]) (hz_dec kX12_assemble 29 rfl) (by decide) rfl ?_
    refine hz_pick (pc := 51) [0, 2, 1, 3, 5, 6, 7, 8] rfl ?_
    refine c_ra_z h8 hz hv6 hI.2.2.2.1.1 h012.2.2.2.2.2.1 (M0 := M2) (fun M3 hf3 hE3 hpk3 => ?_) 16 0 M2 rfl (by omega) (mfr.rf hk2.1) hE2 (fun i hi => absurd hi (by omega))
    have hX3 : raI M2 M3 B (hoT H).length (hoE H) := ⟨hf3.mono rfl rfl, hE3, (hf3.2.2 95 rfl).trans a62, (hf3.2.2 103 rfl).trans a82⟩
    obtain ⟨fs3, hO3, hF3⟩ := id hf3.2.1
    have e27 : fA M3 B 27 (128 * v + ksT N.1) = nI (eH (enB (ksB N.1)) (ksT N.1)) := by rw [fA_m hf3 (by decide) rfl]; exact ((h012.2.2.2.2.1.1 (ksT N.1) (by omega)).1 (by omega)).2.1
    refine hz_aloadn (pc := 200) 3 (hz_dec kX12_assemble 111 rfl) rfl ?_
    refine hz_get (pc := 201) (v := .ref (B + 27)) (hz_dec kX12_assemble 112 rfl) fo_X12_92 hO3 h8 (by omega) (hF3.2 29 (by decide) (by decide)) ?_
    refine hz_iloadn (pc := 204) 4 (hz_dec kX12_assemble 113 rfl) rfl ?_
    refine hz_iload (pc := 205) 2 (hz_dec kX12_assemble 114 rfl) rfl ?_
    refine hz_xS (pc := 207) (As := [.int (nI v), .int (nI (ksT N.1))]) (st := [.ref (B + 27)]) (hz_dec kX12_assemble 115 rfl) co_X12_419 sc_X12_at0 (c_at0 (v := v) (y := ksT N.1)) rfl (by decide) ⟨Nat.le_refl _, Nat.le_refl _⟩ (Nat.le_of_ble_eq_true rfl) rfl ?_
    refine hz_iald (pc := 210) (j := 128 * v + ksT N.1) (hz_dec kX12_assemble 116 rfl) hE3.a27 (by omega) (by omega) rfl (by omega) (by decide) ?_
    refine hz_eqi (pc := 211) e27 ?_
    refine hz_iconst (pc := 211) (v := nI 1) (hz_dec kX12_assemble 117 rfl) (by decide) ?_
    refine hz_addN (pc := 212) (hz_dec kX12_assemble 118 rfl) ?_
    refine hz_istore (pc := 213) (i := 10) (lo2 := [(10, .int (nI ((eH (enB (ksB N.1)) (ksT N.1)) + 1))), (7, .int (nI (cgN (ksP N.1)))), (8, .long (cgF (poV (ksP N.1)) (ksP N.1).length (cgN (ksP N.1)))), (6, .int (nI (ksT N.1))), (0, .ref B), (1, .int (nI v)), (2, .long sd), (4, .int tm)]) (hz_dec kX12_assemble 119 rfl) (by decide) rfl ?_
    refine hz_iconst (pc := 215) (v := nI 0) (hz_dec kX12_assemble 120 rfl) (by decide) ?_
    refine hz_istore (pc := 216) (i := 11) (lo2 := [(11, .int (nI 0)), (10, .int (nI ((eH (enB (ksB N.1)) (ksT N.1)) + 1))), (7, .int (nI (cgN (ksP N.1)))), (8, .long (cgF (poV (ksP N.1)) (ksP N.1).length (cgN (ksP N.1)))), (6, .int (nI (ksT N.1))), (0, .ref B), (1, .int (nI v)), (2, .long sd), (4, .int tm)]) (hz_dec kX12_assemble 121 rfl) (by decide) rfl ?_
    refine hz_pick (pc := 218) [0, 1, 2, 3, 4, 5, 6, 7, 8] rfl ?_
    exact c_rs_h hfz hR2 hnn hv hN hup hI hW 80 0 M3 rfl (by omega) hX3 hpk3 (fun j hj => absurd hj (by omega))
  · skip
    exact absurd htm h1
