/-! the reference: layFirst -/
theorem lay_A {f1 f2 f4 f5 : Nat → Int32} (u1 : ∀ j, j < 4 → f1 (64 + j) = sb_b (byi (nI 1000) j)) (w1 : ∀ q, q < 64 ∨ 64 + 4 ≤ q → f1 q = 0) (u2 : ∀ j, j < 4 → f2 (68 + j) = sb_b (byi (nI 537919487) j)) (w2 : ∀ q, q < 68 ∨ 68 + 4 ≤ q → f2 q = f1 q) (u4 : ∀ j, j < 8 → f4 (87 + j) = sb_b (byl 4096 j)) (w4 : ∀ q, q < 87 ∨ 87 + 8 ≤ q → f4 q = upd (upd f2 80 ((nI (1)).toInt8.toInt32)) 82 ((nI (1)).toInt8.toInt32) q) (u5 : ∀ j, j < 8 → f5 (95 + j) = sb_b (byl (ky_a 0) j)) (w5 : ∀ q, q < 95 ∨ 95 + 8 ≤ q → f5 q = f4 q) : isA f5 0 fi1 := by
  have x3 : ∀ q, q < 87 → ¬ q = 80 → ¬ q = 82 → f5 q = f2 q := fun q h1 h2 h3 => by
    rw [w5 q (by omega), w4 q (by omega)]
    unfold upd
    rw [if_neg h3, if_neg h2]
  have x1 : ∀ q, q < 64 ∨ 72 ≤ q → q < 87 → ¬ q = 80 → ¬ q = 82 → f5 q = 0 := fun q h0 h1 h2 h3 => by
    rw [x3 q h1 h2 h3, w2 q (by omega), w1 q (by omega)]
  intro j hj
  rw [fi1_len] at hj
  rw [Nat.zero_add, fi1_h hj]
  unfold asH
  rcases (show j < 32 ∨ 32 ≤ j ∧ j < 64 ∨ 64 ≤ j ∧ j < 68 ∨ 68 ≤ j ∧ j < 72 ∨ 72 ≤ j ∧ j < 80 ∨ j = 80 ∨ j = 81 ∨ j = 82 ∨ 83 ≤ j ∧ j < 87 ∨ 87 ≤ j ∧ j < 95 ∨ 95 ≤ j by omega) with c | c | c | c | c | c | c | c | c | c | c
  · rw [if_pos c, x1 j (by omega) (by omega) (by omega) (by omega)]
    rfl
  · rw [if_neg (by omega), if_pos c.2]
    exact x1 j (by omega) (by omega) (by omega) (by omega)
  · rw [if_neg (by omega), if_neg (by omega), if_pos c.2, x3 j (by omega) (by omega) (by omega), w2 j (by omega)]
    have q := u1 (j - 64) (by omega)
    rw [show 64 + (j - 64) = j by omega] at q
    exact q
  · rw [if_neg (by omega), if_neg (by omega), if_neg (by omega), if_pos c.2, x3 j (by omega) (by omega) (by omega)]
    have q := u2 (j - 68) (by omega)
    rw [show 68 + (j - 68) = j by omega] at q
    exact q
  · rw [if_neg (by omega), if_neg (by omega), if_neg (by omega), if_neg (by omega), if_pos c.2]
    exact x1 j (by omega) (by omega) (by omega) (by omega)
  · rw [if_neg (by omega), if_neg (by omega), if_neg (by omega), if_neg (by omega), if_neg (by omega), if_pos c, c, w5 80 (by omega), w4 80 (by omega)]
    show (nI (1)).toInt8.toInt32 = _
    decide
  · rw [if_neg (by omega), if_neg (by omega), if_neg (by omega), if_neg (by omega), if_neg (by omega), if_neg (by omega), if_pos c]
    exact x1 j (by omega) (by omega) (by omega) (by omega)
  · rw [if_neg (by omega), if_neg (by omega), if_neg (by omega), if_neg (by omega), if_neg (by omega), if_neg (by omega), if_neg (by omega), if_pos c, c, w5 82 (by omega), w4 82 (by omega)]
    show (nI (1)).toInt8.toInt32 = _
    decide
  · rw [if_neg (by omega), if_neg (by omega), if_neg (by omega), if_neg (by omega), if_neg (by omega), if_neg (by omega), if_neg (by omega), if_neg (by omega), if_pos c.2, x1 j (by omega) (by omega) (by omega) (by omega)]
    exact ((show ∀ k, k < 4 → sb_b (byi (nI 0) k) = 0 by decide) (j - 83) (by omega)).symm
  · rw [if_neg (by omega), if_neg (by omega), if_neg (by omega), if_neg (by omega), if_neg (by omega), if_neg (by omega), if_neg (by omega), if_neg (by omega), if_neg (by omega), if_pos c.2, w5 j (by omega)]
    have q := u4 (j - 87) (by omega)
    rw [show 87 + (j - 87) = j by omega] at q
    exact q
  · rw [if_neg (by omega), if_neg (by omega), if_neg (by omega), if_neg (by omega), if_neg (by omega), if_neg (by omega), if_neg (by omega), if_neg (by omega), if_neg (by omega), if_neg (by omega)]
    have q := u5 (j - 95) (by omega)
    rw [show 95 + (j - 95) = j by omega] at q
    exact q
def lfI (z B : Nat) (M0 M : hz_M) (T : by_L) : Prop := mfr B [16, 37] [3, 4, 5, 6, 7, 8, 10, 11, 14, 15, 34] M0 M ∧ md_k B M z ∧ mdE M B ∧ fdB M B 37 = some (.int (nI 103)) ∧ isA (fA M B 34) 0 T
set_option maxHeartbeats 4000000 in
set_option maxRecDepth 100000 in
theorem c_lf_l {κ : hz_C} {z B : Nat} {M0 : hz_M} : ∀ k i T (M : hz_M), k = fiN - i → i ≤ fiN → T.length = 103 → (∀ y, nzT T y = nzT fi2 y) → lfI z B M0 M T → hz_W κ xX12_layFirst 7 0 0 (fun r z2 M2 => none = r ∧ z = z2 ∧ lfI z B M0 M2 fiF) 0 0 87 [(5, .int (nI 0)), (3, .long (lN i)), (0, .ref B), (1, .ref (B + 34))] [] z M := by
  intro k
  induction k using Nat.strongRecOn with
  | ind k ih =>
  intro i T M hk hi hTL hnz hI
  obtain ⟨hf0, hk0, hE0, h37, hA⟩ := id hI
  obtain ⟨⟨fs, hO, hF⟩, -, -, h8, hz⟩ := id hk0
  have hN := fiN_at
  have hsw : slW T (lN i) (tgT 537919487) = slW fi2 (lN i) (tgT 537919487) := by unfold slW; rw [hnz]
  refine hz_iload (pc := 87) 0 (hz_dec kX12_layFirst 50 rfl) rfl ?_
  refine hz_z_ne (pc := 89) (tgt := 123) (hz_dec kX12_layFirst 51 rfl) (by decide) (by omega) (fun h1 => ?_) (fun h1 => ?_)
  · skip
    exact absurd h1 (by decide)
  · skip
    refine hz_aloadn (pc := 92) 3 (hz_dec kX12_layFirst 52 rfl) rfl ?_
    refine hz_bipush (pc := 93) (v := nI 72) (hz_dec kX12_layFirst 53 rfl) (by decide) ?_
    refine hz_lloadn (pc := 95) 1 (hz_dec kX12_layFirst 54 rfl) rfl ?_
    refine hz_callS (pc := 96) (As := [.ref (B + 34), .int (nI 72), .long (lN i)]) (st := []) (hz_dec kX12_layFirst 55 rfl) co_X12_334 sc_X12_putLong (c_putLong (at_ := 72) (v := lN i) hE0.a34 (by omega) (by omega) (by decide) (by decide)) rfl (by decide) ⟨Nat.le_refl _, Nat.le_refl _⟩ (Nat.le_of_ble_eq_true rfl) rfl (fun r9 z9 M9 hp9 => ?_)
    obtain ⟨rfl, rfl, f1, u1, v1, rfl⟩ := hp9
    have hA1 : isA (fA (va_up M (B + 34) (.inl (1, 200, .inl (f1)))) B 34) 0 (nzT T (lN i)) := by rw [fA_of (va_up_self _ _ _)]; exact nzT_A hA u1 v1
    have hf1 : mfr B [] [34] M (va_up M (B + 34) (.inl (1, 200, .inl (f1)))) := ((mfr.rf (ks := []) (os := [34]) ⟨fs, hO, hF⟩).upA (o := 34) rfl (by decide))
    have hE1 : mdE (va_up M (B + 34) (.inl (1, 200, .inl (f1)))) B := (hE0.upA (k := 34) (t := 1) (n := 200) (by decide))
    have hk1 : md_k B (va_up M (B + 34) (.inl (1, 200, .inl (f1)))) z := hk0.mf hf1 rfl rfl
    generalize (va_up M (B + 34) (.inl (1, 200, .inl (f1)))) = M1 at *
    obtain ⟨⟨fs1, hO1, hF1⟩, -, -, -, -⟩ := id hk1
    refine hz_aloadn (pc := 99) 2 (hz_dec kX12_layFirst 56 rfl) rfl ?_
    refine hz_aloadn (pc := 100) 3 (hz_dec kX12_layFirst 57 rfl) rfl ?_
    refine hz_iconst (pc := 101) (v := nI 0) (hz_dec kX12_layFirst 58 rfl) (by decide) ?_
    refine hz_bipush (pc := 102) (v := nI 80) (hz_dec kX12_layFirst 59 rfl) (by decide) ?_
    have e80 := shS_of (hdS_A hA1 (by rw [nzT_len]; omega)) (hdS_len (nzT T (lN i)))
    refine hz_callV (pc := 104) (a := B) (As := [.ref (B + 34), .int (nI 0), .int (nI 80)]) (st := []) (hz_dec kX12_layFirst 60 rfl) co_X12_412 im_X12_twiceOf se_X12_twiceOf rfl hO1 h8 (by omega) (c_twiceOf hk1 hE1.s (at_ := 0) (n := 80) hE1.a34 (by omega) (by omega) (by decide) (by decide)) rfl (by decide) ⟨Nat.le_refl _, Nat.le_refl _⟩ (Nat.le_of_ble_eq_true rfl) rfl (fun r9 z9 M2 hp9 => ?_)
    obtain ⟨rfl, rfl, hf2, hs2, dg, hdg, hdx⟩ := hp9
    rw [e80] at hdx
    have hm2 : mfr B [] [3, 4, 5, 7] M1 M2 := mfr.ofl hk1.1 hf2 rfl
    have hE2 : mdE M2 B := hE1.hs hm2 hs2 rfl
    have hk2 : md_k B M2 z := hk1.mf hm2 rfl rfl
    obtain ⟨⟨fs2, hO2, hF2⟩, -, -, -, -⟩ := id hk2
    refine hz_aloadn (pc := 107) 2 (hz_dec kX12_layFirst 61 rfl) rfl ?_
    refine hz_ldcw (pc := 108) (v := nI 537919487) (hz_dec kX12_layFirst 62 rfl) ks_X12_371 ?_
    refine hz_callV (pc := 111) (a := B) (As := [.int (nI 537919487)]) (st := []) (hz_dec kX12_layFirst 63 rfl) co_X12_445 im_X12_meets se_X12_meets rfl hO2 h8 (by omega) (c_meets hO2 hF2 h8 hz hE2.t hdg hdx (t := nI 537919487) (by decide +kernel) (by decide +kernel)) rfl (by decide) ⟨Nat.le_refl _, Nat.le_refl _⟩ (Nat.le_of_ble_eq_true rfl) rfl (fun r9 z9 M4 hp9 => ?_)
    obtain ⟨rfl, rfl, hf4, ht4, -⟩ := hp9
    have hm4 : mfr B [] [10, 11] M2 M4 := mfr.ofl hk2.1 hf4 rfl
    have hE4 : mdE M4 B := hE2.ht hm4 ht4 rfl
    have hk4 : md_k B M4 z := hk2.mf hm4 rfl rfl
    have hI4 : lfI z B M0 M4 (nzT T (lN i)) := ⟨((hf0.tr (hf1.mono (ks2 := [16, 37]) (os2 := [3, 4, 5, 6, 7, 8, 10, 11, 14, 15, 34]) rfl rfl)).tr (hm2.mono (ks2 := [16, 37]) (os2 := [3, 4, 5, 6, 7, 8, 10, 11, 14, 15, 34]) rfl rfl)).tr (hm4.mono (ks2 := [16, 37]) (os2 := [3, 4, 5, 6, 7, 8, 10, 11, 14, 15, 34]) rfl rfl), hk4, hE4, ((hm4.2.2 37 rfl).trans ((hm2.2.2 37 rfl).trans (hf1.2.2 37 rfl))).trans h37, by rw [fA_m hm4 (by decide) rfl, fA_m hm2 (by decide) rfl]; exact hA1⟩
    rcases (show i < fiN ∨ i = fiN by omega) with c | c
    · skip
      have em : hz_b (slW T (lN i) (tgT 537919487)) = nI 0 := by rw [hsw, hN.2.1 i c]; rfl
      refine hz_eqi (pc := 114) em ?_
      refine hz_istore (pc := 114) (i := 5) (lo2 := [(5, .int (nI 0)), (3, .long (lN i)), (0, .ref B), (1, .ref (B + 34))]) (hz_dec kX12_layFirst 64 rfl) (by decide) rfl ?_
      refine hz_lloadn (pc := 116) 1 (hz_dec kX12_layFirst 65 rfl) rfl ?_
      refine hz_lconst (pc := 117) (v := lN 1) (hz_dec kX12_layFirst 66 rfl) (by decide) ?_
      refine hz_ladd (pc := 118) (hz_dec kX12_layFirst 67 rfl) ?_
      refine hz_eql (pc := 119) (lN_add _ _) ?_
      refine hz_lstoren (pc := 119) (i := 3) (lo2 := [(3, .long (lN ((i) + (1)))), (5, .int (nI 0)), (0, .ref B), (1, .ref (B + 34))]) (hz_dec kX12_layFirst 68 rfl) rfl (by decide) rfl ?_
      refine hz_goto (pc := 120) (tgt := 87) (hz_dec kX12_layFirst 69 rfl) (by decide) ?_
      refine hz_pick (pc := 87) [1, 0, 2, 3] rfl ?_
      exact ih (fiN - (i + 1)) (by omega) (i + 1) (nzT T (lN i)) M4 rfl (by omega) ((nzT_len _ _).trans hTL) (fun y => nz_nz.trans (hnz y)) hI4
    · skip
      have em : hz_b (slW T (lN i) (tgT 537919487)) = nI 1 := by rw [hsw, c, hN.1]; rfl
      refine hz_eqi (pc := 114) em ?_
      have hI5 : lfI z B M0 M4 fiF := by have q := hI4; rw [hnz, c] at q; exact q
      refine hz_istore (pc := 114) (i := 5) (lo2 := [(5, .int (nI 1)), (3, .long (lN i)), (0, .ref B), (1, .ref (B + 34))]) (hz_dec kX12_layFirst 64 rfl) (by decide) rfl ?_
      refine hz_lloadn (pc := 116) 1 (hz_dec kX12_layFirst 65 rfl) rfl ?_
      refine hz_lconst (pc := 117) (v := lN 1) (hz_dec kX12_layFirst 66 rfl) (by decide) ?_
      refine hz_ladd (pc := 118) (hz_dec kX12_layFirst 67 rfl) ?_
      refine hz_eql (pc := 119) (lN_add _ _) ?_
      refine hz_lstoren (pc := 119) (i := 3) (lo2 := [(3, .long (lN ((i) + (1)))), (5, .int (nI 1)), (0, .ref B), (1, .ref (B + 34))]) (hz_dec kX12_layFirst 68 rfl) rfl (by decide) rfl ?_
      refine hz_goto (pc := 120) (tgt := 87) (hz_dec kX12_layFirst 69 rfl) (by decide) ?_
      refine hz_iload (pc := 87) 1 (hz_dec kX12_layFirst 50 rfl) rfl ?_
      refine hz_z_ne (pc := 89) (tgt := 123) (hz_dec kX12_layFirst 51 rfl) (by decide) (by omega) (fun h2 => ?_) (fun h2 => ?_)
      · skip
        exact hz_vret (pc := 123) (hz_dec kX12_layFirst 70 rfl) rfl ⟨rfl, rfl, hI5⟩
      · skip
        exact absurd h2 (by decide)
set_option maxHeartbeats 4000000 in
set_option maxRecDepth 100000 in
theorem c_layF {κ : hz_C} {z B : Nat} {M0 : hz_M} (hk : md_k B M0 z) (hE0 : mdE M0 B) (h34 : fA M0 B 34 = fun _ => 0) : hz_Mt κ xX12_layFirst 7 0 0 [.ref B] z M0 (fun r z2 M2 => none = r ∧ z = z2 ∧ lfI z B M0 M2 fiF) := by
  refine hz_ent (lo := [(0, .ref B)]) (by decide) (Nat.le_of_ble_eq_true rfl) rfl ?_
  obtain ⟨⟨fs, hO, hF⟩, -, -, h8, hz⟩ := id hk
  refine hz_aloadn (pc := 0) 0 (hz_dec kX12_layFirst 0 rfl) rfl ?_
  refine hz_get (pc := 1) (v := .ref (B + 34)) (hz_dec kX12_layFirst 1 rfl) fo_X12_113 hO h8 (by omega) (hF.2 36 (by decide) (by decide)) ?_
  refine hz_astoren (pc := 4) (i := 1) (lo2 := [(1, .ref (B + 34)), (0, .ref B)]) (hz_dec kX12_layFirst 2 rfl) rfl (by decide) rfl ?_
  refine hz_aloadn (pc := 5) 0 (hz_dec kX12_layFirst 3 rfl) rfl ?_
  refine hz_bipush (pc := 6) (v := nI 64) (hz_dec kX12_layFirst 4 rfl) (by decide) ?_
  refine hz_sipush (pc := 8) (v := nI 1000) (hz_dec kX12_layFirst 5 rfl) (by decide) ?_
  refine hz_callS (pc := 11) (As := [.ref (B + 34), .int (nI 64), .int (nI 1000)]) (st := []) (hz_dec kX12_layFirst 6 rfl) co_X12_425 sc_X12_putInt (c_putInt (at_ := 64) (v := nI 1000) hE0.a34 (by omega) (by omega) (by decide) (by decide)) rfl (by decide) ⟨Nat.le_refl _, Nat.le_refl _⟩ (Nat.le_of_ble_eq_true rfl) rfl (fun r9 z9 M9 hp9 => ?_)
  obtain ⟨rfl, rfl, f1, u1, v1, rfl⟩ := hp9
  refine hz_aloadn (pc := 14) 0 (hz_dec kX12_layFirst 7 rfl) rfl ?_
  refine hz_bipush (pc := 15) (v := nI 68) (hz_dec kX12_layFirst 8 rfl) (by decide) ?_
  refine hz_ldcw (pc := 17) (v := nI 537919487) (hz_dec kX12_layFirst 9 rfl) ks_X12_371 ?_
  refine hz_callS (pc := 20) (As := [.ref (B + 34), .int (nI 68), .int (nI 537919487)]) (st := []) (hz_dec kX12_layFirst 10 rfl) co_X12_425 sc_X12_putInt (c_putInt (at_ := 68) (v := nI 537919487) (va_up_self _ _ _) (by omega) (by omega) (by decide) (by decide)) rfl (by decide) ⟨Nat.le_refl _, Nat.le_refl _⟩ (Nat.le_of_ble_eq_true rfl) rfl (fun r9 z9 M9 hp9 => ?_)
  obtain ⟨rfl, rfl, f2, u2, v2, rfl⟩ := hp9
  refine hz_mem (pc := 23) (M2 := (va_up M0 (B + 34) (.inl (1, 200, .inl (f2))))) (bx_uu _ _ _ _) ?_
  refine hz_aloadn (pc := 23) 0 (hz_dec kX12_layFirst 11 rfl) rfl ?_
  refine hz_bipush (pc := 24) (v := nI 80) (hz_dec kX12_layFirst 12 rfl) (by decide) ?_
  refine hz_iconst (pc := 26) (v := nI 1) (hz_dec kX12_layFirst 13 rfl) (by decide) ?_
  refine hz_bast (pc := 27) (j := 80) (hz_dec kX12_layFirst 14 rfl) (va_up_self _ _ _) (by omega) (by omega) rfl (by omega) (by decide) ?_
  refine hz_aloadn (pc := 28) 0 (hz_dec kX12_layFirst 15 rfl) rfl ?_
  refine hz_bipush (pc := 29) (v := nI 82) (hz_dec kX12_layFirst 16 rfl) (by decide) ?_
  refine hz_iconst (pc := 31) (v := nI 1) (hz_dec kX12_layFirst 17 rfl) (by decide) ?_
  refine hz_bast (pc := 32) (j := 82) (hz_dec kX12_layFirst 18 rfl) (va_up_self _ _ _) (by omega) (by omega) rfl (by omega) (by decide) ?_
  refine hz_aloadn (pc := 33) 0 (hz_dec kX12_layFirst 19 rfl) rfl ?_
  refine hz_bipush (pc := 34) (v := nI 87) (hz_dec kX12_layFirst 20 rfl) (by decide) ?_
  refine hz_ldc2 (pc := 36) (v := (4096)) (hz_dec kX12_layFirst 21 rfl) ks_X12_428 ?_
  refine hz_mem (pc := 39) (M2 := (va_up (va_up M0 (B + 34) (.inl (1, 200, .inl (f2)))) (B + 34) (.inl (1, 200, .inl (upd (upd f2 80 ((nI (1)).toInt8.toInt32)) 82 ((nI (1)).toInt8.toInt32)))))) (bx_uu _ _ _ _) ?_
  refine hz_mem (pc := 39) (M2 := (va_up M0 (B + 34) (.inl (1, 200, .inl (upd (upd f2 80 ((nI (1)).toInt8.toInt32)) 82 ((nI (1)).toInt8.toInt32)))))) (bx_uu _ _ _ _) ?_
  refine hz_callS (pc := 39) (As := [.ref (B + 34), .int (nI 87), .long (4096)]) (st := []) (hz_dec kX12_layFirst 22 rfl) co_X12_334 sc_X12_putLong (c_putLong (at_ := 87) (v := 4096) (va_up_self _ _ _) (by omega) (by omega) (by decide) (by decide)) rfl (by decide) ⟨Nat.le_refl _, Nat.le_refl _⟩ (Nat.le_of_ble_eq_true rfl) rfl (fun r9 z9 M9 hp9 => ?_)
  obtain ⟨rfl, rfl, f4, u4, v4, rfl⟩ := hp9
  refine hz_mem (pc := 42) (M2 := (va_up M0 (B + 34) (.inl (1, 200, .inl (f4))))) (bx_uu _ _ _ _) ?_
  refine hz_aloadn (pc := 42) 0 (hz_dec kX12_layFirst 23 rfl) rfl ?_
  refine hz_bipush (pc := 43) (v := nI 95) (hz_dec kX12_layFirst 24 rfl) (by decide) ?_
  refine hz_aloadn (pc := 45) 1 (hz_dec kX12_layFirst 25 rfl) rfl ?_
  refine hz_lconst (pc := 46) (v := 0) (hz_dec kX12_layFirst 26 rfl) (by decide) ?_
  have hf1 : mfr B [] [34] M0 (va_up M0 (B + 34) (.inl (1, 200, .inl (f4)))) := ((mfr.rf (ks := []) (os := [34]) ⟨fs, hO, hF⟩).upA (o := 34) rfl (by decide))
  have hE1 : mdE (va_up M0 (B + 34) (.inl (1, 200, .inl (f4)))) B := (hE0.upA (k := 34) (t := 1) (n := 200) (by decide))
  have hk1 : md_k B (va_up M0 (B + 34) (.inl (1, 200, .inl (f4)))) z := hk.mf hf1 rfl rfl
  have e341 : (va_up M0 (B + 34) (.inl (1, 200, .inl (f4)))) (B + 34) = .inl (1, 200, .inl f4) := va_up_self _ _ _
  generalize (va_up M0 (B + 34) (.inl (1, 200, .inl (f4)))) = M1 at *
  obtain ⟨⟨fs1, hO1, hF1⟩, -, -, -, -⟩ := id hk1
  refine hz_callV (pc := 47) (a := B) (As := [.long 0]) (st := [.int (nI 95), .ref (B + 34)]) (hz_dec kX12_layFirst 27 rfl) co_X12_430 im_X12_addressOf se_X12_addressOf rfl hO1 h8 (by omega) (c_adOf hk1 hE1.s (v := 0)) rfl (by decide) ⟨Nat.le_refl _, Nat.le_refl _⟩ (Nat.le_of_ble_eq_true rfl) rfl (fun r9 z9 M2 hp9 => ?_)
  obtain ⟨rfl, rfl, hf2, hs2, -⟩ := hp9
  have hm2 : mfr B [] [3, 4, 5, 6, 8] M1 M2 := mfr.ofl hk1.1 hf2 rfl
  have hE2 : mdE M2 B := hE1.hs hm2 hs2 rfl
  have hk2 : md_k B M2 z := hk1.mf hm2 rfl rfl
  obtain ⟨⟨fs2, hO2, hF2⟩, -, -, -, -⟩ := id hk2
  have e342 : M2 (B + 34) = .inl (1, 200, .inl f4) := (hm2.at 34 (by decide) rfl).trans e341
  refine hz_callS (pc := 50) (As := [.ref (B + 34), .int (nI 95), .long (ky_a 0)]) (st := []) (hz_dec kX12_layFirst 28 rfl) co_X12_334 sc_X12_putLong (c_putLong (at_ := 95) (v := ky_a 0) e342 (by omega) (by omega) (by decide) (by decide)) rfl (by decide) ⟨Nat.le_refl _, Nat.le_refl _⟩ (Nat.le_of_ble_eq_true rfl) rfl (fun r9 z9 M9 hp9 => ?_)
  obtain ⟨rfl, rfl, f5, u5, v5, rfl⟩ := hp9
  refine hz_aloadn (pc := 53) 1 (hz_dec kX12_layFirst 29 rfl) rfl ?_
  refine hz_bipush (pc := 54) (v := nI 103) (hz_dec kX12_layFirst 30 rfl) (by decide) ?_
  refine hz_puti (pc := 56) (hz_dec kX12_layFirst 31 rfl) fo_X12_434 ft_X12_37 (hz_mne hO2 (by omega)) h8 (by omega) (by rw [hF2.1]; decide) ?_
  refine hz_aloadn (pc := 59) 1 (hz_dec kX12_layFirst 32 rfl) rfl ?_
  refine hz_aloadn (pc := 60) 0 (hz_dec kX12_layFirst 33 rfl) rfl ?_
  refine hz_iconst (pc := 61) (v := nI 0) (hz_dec kX12_layFirst 34 rfl) (by decide) ?_
  refine hz_aloadn (pc := 62) 1 (hz_dec kX12_layFirst 35 rfl) rfl ?_
  refine hz_get (pc := 63) (v := .int (nI 103)) (hz_dec kX12_layFirst 36 rfl) fo_X12_434 (va_up_self _ _ _) h8 (by omega) (List.getElem?_set_self (by rw [hF2.1]; decide)) ?_
  have hA5 : isA f5 0 fi1 := lay_A u1 (fun q hq => (v1 q hq).trans (by rw [h34])) u2 v2 u4 v4 u5 v5
  have hf3 : mfr B [37] [34] M2 (va_up (va_up M2 (B + 34) (.inl (1, 200, .inl (f5)))) B (.inr (12, (List.set fs2 37 (.int (nI 103)))))) := (((mfr.rf (ks := [37]) (os := [34]) ⟨fs2, hO2, hF2⟩).upA (o := 34) rfl (by decide)).upO (k := 37) (hz_mne hO2 (by omega)) hF2 rfl rfl)
  have hE3 : mdE (va_up (va_up M2 (B + 34) (.inl (1, 200, .inl (f5)))) B (.inr (12, (List.set fs2 37 (.int (nI 103)))))) B := ((hE2.upA (k := 34) (t := 1) (n := 200) (by decide)).upO)
  have hk3 : md_k B (va_up (va_up M2 (B + 34) (.inl (1, 200, .inl (f5)))) B (.inr (12, (List.set fs2 37 (.int (nI 103)))))) z := hk2.mf hf3 rfl rfl
  have e343 : (va_up (va_up M2 (B + 34) (.inl (1, 200, .inl (f5)))) B (.inr (12, (List.set fs2 37 (.int (nI 103)))))) (B + 34) = .inl (1, 200, .inl f5) := (hz_mne (va_up_self _ _ _) (by omega))
  have g37 : fdB (va_up (va_up M2 (B + 34) (.inl (1, 200, .inl (f5)))) B (.inr (12, (List.set fs2 37 (.int (nI 103)))))) B 37 = some (.int (nI 103)) := (fdB_of (va_up_self _ _ _) 37).trans (List.getElem?_set_self (by rw [hF2.1]; decide))
  generalize (va_up (va_up M2 (B + 34) (.inl (1, 200, .inl (f5)))) B (.inr (12, (List.set fs2 37 (.int (nI 103)))))) = M3 at *
  obtain ⟨⟨fs3, hO3, hF3⟩, -, -, -, -⟩ := id hk3
  refine hz_callV (pc := 66) (a := B) (As := [.ref (B + 34), .int (nI 0), .int (nI 103)]) (st := []) (hz_dec kX12_layFirst 37 rfl) co_X12_437 im_X12_isBlock se_X12_isBlock rfl hO3 h8 (by omega) (c_isB hO3 hF3 h8 hz hE3.a14 e343 (by omega) (by omega) (by decide) (e := 103) (by decide)) rfl (by decide) ⟨Nat.le_refl _, Nat.le_refl _⟩ (Nat.le_of_ble_eq_true rfl) rfl (fun r9 z9 M4 hp9 => ?_)
  obtain ⟨rfl, rfl, hf4_, s4, pc4, hO4_, h144, hs4⟩ := hp9
  have ha34 : ∀ i, i < 103 → f5 i = lf fi1 i := fun i hi => by have q := hA5 i (by rw [fi1_len]; exact hi); rw [Nat.zero_add] at q; exact q
  have hbn0 : bk_n f5 103 = 1 := by rw [bk_n_c ha34]; have q := fi1_n; unfold bkN at q; rw [fi1_len] at q; exact q
  have hst0 : ∀ j, bk_st f5 103 j = bkS fi1 j := fun j => by rw [(bk_st_c ha34 j).1]; unfold bkS; rw [fi1_len]
  have hs5 := hs4 (by rw [hbn0]; decide)
  rw [hbn0] at hs5
  have hf4 : mfr B [16] [14] M3 M4 := ⟨fun a ha => hf4_ a (fun o9 ho9 => ha o9 ho9), ⟨_, hO4_, md_set hF3 rfl⟩, fun k hk9 => by rw [fdB_of hO4_, fdB_of hO3]; exact List.getElem?_set_ne (fun c => by rw [← c] at hk9; cases hk9)⟩
  have hE4 : mdE M4 B := hE3.gen hf4 (A := []) (E := [14]) rfl sho_n (sho_c (shoA (by decide) h144) sho_n)
  have hk4 : md_k B M4 z := hk3.mf hf4 rfl rfl
  obtain ⟨⟨fs4, hO4, hF4⟩, -, -, -, -⟩ := id hk4
  have e344 : M4 (B + 34) = .inl (1, 200, .inl f5) := (hf4.at 34 (by decide) rfl).trans e343
  have h164 : fdB M4 B 16 = some (.int (nI 1)) := by rw [fdB_of hO4_, List.getElem?_set_self (by rw [hF3.1]; decide), hs5.1]
  refine hz_topi (pc := 69) (fun y1 ey1 => ?_)
  refine hz_istoren (pc := 69) (i := 2) (lo2 := [(2, .int y1), (1, .ref (B + 34)), (0, .ref B)]) (hz_dec kX12_layFirst 38 rfl) rfl (by decide) rfl ?_
  refine hz_aloadn (pc := 70) 2 (hz_dec kX12_layFirst 39 rfl) rfl ?_
  refine hz_aloadn (pc := 71) 1 (hz_dec kX12_layFirst 40 rfl) rfl ?_
  have hW1 := fi1_W
  refine hz_callV (pc := 72) (a := B) (As := [.ref (B + 34)]) (st := []) (hz_dec kX12_layFirst 41 rfl) co_X12_441 im_X12_findRoot se_X12_findRoot rfl hO4 h8 (by omega) (c_findRoot hk4 e344 (by omega) (by omega) (ne_off (by decide)) (by decide) h144 (m := 1) (by decide) (st := bkS fi1) (fun j hj => by rw [hs5.2 j hj, hst0]) (T := bkT fi1) (fun j hj => ⟨by have q := hW1.A hA5 (j := j) (by rw [fi1_n]; exact hj); rw [Nat.zero_add] at q; exact q, (hW1.t (j := j) (by rw [fi1_n]; exact hj)).1, by have q := (hW1.t (j := j) (by rw [fi1_n]; exact hj)).2.2.2.1; rw [fi1_len] at q; omega⟩) (by decide) hE4.s h164 hE4.a15) rfl (by decide) ⟨Nat.le_refl _, Nat.le_refl _⟩ (Nat.le_of_ble_eq_true rfl) rfl (fun r9 z9 M5 hp9 => ?_)
  obtain ⟨rfl, rfl, hf5, hs6, ⟨g15, h15⟩, dg5, hd5, hdA⟩ := hp9
  have hE5 : mdE M5 B := hE4.gen hf5 (A := [3, 4, 5, 6, 7, 8, 9]) (E := [15]) rfl hs6.sho (sho_c (shoA (by decide) h15) sho_n)
  have hk5 : md_k B M5 z := hk4.mf hf5 rfl rfl
  obtain ⟨⟨fs5, hO5, hF5⟩, -, -, -, -⟩ := id hk5
  have e345 : M5 (B + 34) = .inl (1, 200, .inl f5) := (hf5.at 34 (by decide) rfl).trans e344
  have hdA2 : isA dg5 0 (rtS fi1) := by unfold rtS; rw [fi1_n]; exact hdA
  refine hz_aloadn (pc := 75) 2 (hz_dec kX12_layFirst 42 rfl) rfl ?_
  refine hz_aloadn (pc := 76) 1 (hz_dec kX12_layFirst 43 rfl) rfl ?_
  refine hz_bipush (pc := 77) (v := nI 32) (hz_dec kX12_layFirst 44 rfl) (by decide) ?_
  refine hz_bytes hd5 (by omega) (by omega) (fun hbd5 => ?_)
  refine hz_callV (pc := 79) (a := B) (As := [.ref (B + 34), .int (nI 32)]) (st := []) (hz_dec kX12_layFirst 45 rfl) co_X12_415 im_X12_keepDigest se_X12_keepDigest rfl hO5 h8 (by omega) (c_keepD (at_ := 32) hO5 hF5 h8 hz hd5 hbd5 e345 (by omega) (by omega) (by decide) (by decide) (by omega)) rfl (by decide) ⟨Nat.le_refl _, Nat.le_refl _⟩ (Nat.le_of_ble_eq_true rfl) rfl (fun r9 z9 M6 hp9 => ?_)
  obtain ⟨rfl, rfl, f6, u6, w6, rfl⟩ := hp9
  have hf6 : mfr B [] [34] M5 (va_up M5 (B + 34) (.inl (1, 200, .inl (f6)))) := ((mfr.rf (ks := []) (os := [34]) ⟨fs5, hO5, hF5⟩).upA (o := 34) rfl (by decide))
  have hE6 : mdE (va_up M5 (B + 34) (.inl (1, 200, .inl (f6)))) B := (hE5.upA (k := 34) (t := 1) (n := 200) (by decide))
  have hk6 : md_k B (va_up M5 (B + 34) (.inl (1, 200, .inl (f6)))) z := hk5.mf hf6 rfl rfl
  have hI6 : lfI z B M0 (va_up M5 (B + 34) (.inl (1, 200, .inl (f6)))) fi2 := ⟨((((((hf1.mono (ks2 := [16, 37]) (os2 := [3, 4, 5, 6, 7, 8, 10, 11, 14, 15, 34]) rfl rfl).tr (hm2.mono (ks2 := [16, 37]) (os2 := [3, 4, 5, 6, 7, 8, 10, 11, 14, 15, 34]) rfl rfl)).tr (hf3.mono (ks2 := [16, 37]) (os2 := [3, 4, 5, 6, 7, 8, 10, 11, 14, 15, 34]) rfl rfl)).tr (hf4.mono (ks2 := [16, 37]) (os2 := [3, 4, 5, 6, 7, 8, 10, 11, 14, 15, 34]) rfl rfl)).tr (hf5.mono (ks2 := [16, 37]) (os2 := [3, 4, 5, 6, 7, 8, 10, 11, 14, 15, 34]) rfl rfl)).tr (hf6.mono (ks2 := [16, 37]) (os2 := [3, 4, 5, 6, 7, 8, 10, 11, 14, 15, 34]) rfl rfl)), hk6, hE6, ((hf6.2.2 37 rfl).trans ((hf5.2.2 37 rfl).trans (hf4.2.2 37 rfl))).trans g37, by rw [fA_of (va_up_self _ _ _)]; exact rp_A hA5 hdA2 (rtS_len hW1) u6 w6⟩
  generalize (va_up M5 (B + 34) (.inl (1, 200, .inl (f6)))) = M7 at *
  refine hz_lconst (pc := 82) (v := lN 0) (hz_dec kX12_layFirst 46 rfl) (by decide) ?_
  refine hz_lstoren (pc := 83) (i := 3) (lo2 := [(3, .long (lN 0)), (2, .int y1), (1, .ref (B + 34)), (0, .ref B)]) (hz_dec kX12_layFirst 47 rfl) rfl (by decide) rfl ?_
  refine hz_iconst (pc := 84) (v := nI 0) (hz_dec kX12_layFirst 48 rfl) (by decide) ?_
  refine hz_istore (pc := 85) (i := 5) (lo2 := [(5, .int (nI 0)), (3, .long (lN 0)), (2, .int y1), (1, .ref (B + 34)), (0, .ref B)]) (hz_dec kX12_layFirst 49 rfl) (by decide) rfl ?_
  refine hz_pick (pc := 87) [0, 1, 4, 3] rfl ?_
  exact c_lf_l fiN 0 fi2 M7 (by omega) (Nat.zero_le _) fi2_len (fun _ => rfl) hI6
