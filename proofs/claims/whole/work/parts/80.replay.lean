/-! Coins.replay -/
set_option maxHeartbeats 4000000 in
set_option maxRecDepth 100000 in
theorem c_rep_i {κ : hz_C} {z : Nat} {M0 : hz_M} {t : Nat} {bl : List bk_B} {tip : Nat} {en : List en_E} (h : trR M0 t bl tip en) (ht8 : 63 ≤ t) (htz : t + 13 ≤ z) {a : Nat} (ha : 26 ≤ a) (hza : a + 8 ≤ z) (hat : a + 8 ≤ t ∨ t + 13 ≤ a) {x : Nat} (hx : x < bl.length) (hbx : blX bl) (hcb : cbX bl en x) {fl : Nat → Int32} (hfl : ∀ h, h ≤ eH en x → fl h = nI (chE en x h)) {P : hz_P} {hh : Nat} (hhe : hh ≤ eH en x) (K9 : ∀ M, frS [(a, a + 7)] M0 M → M (a + 7) = .inl (0, 113, .inl fl) → coR M a (coC bl en x (hh + 1)) → hz_W κ xX1_replay 3 0 0 P 0 0 141 [(5, .int (nI hh)), (0, .ref a), (1, .ref t), (3, .int (nI (eH en x))), (4, .ref (t + 1 + 1))] [] z M) : ∀ k j M, k = bkN (bBy bl (chE en x hh)) - j → j ≤ bkN (bBy bl (chE en x hh)) → frS [(a, a + 7)] M0 M → M (a + 7) = .inl (0, 113, .inl fl) → coR M a (coTs (bBy bl (chE en x hh)) hh (coC bl en x hh) j) → hz_W κ xX1_replay 3 0 0 P 0 0 91 [(10, .int (nI j)), (9, .int (nI (bkN (bBy bl (chE en x hh))))), (8, .int (nI (offL (bl.map Prod.fst) (chE en x hh) + (bBy bl (chE en x hh)).length))), (7, .int (nI (offL (bl.map Prod.fst) (chE en x hh) + bkS (bBy bl (chE en x hh)) j))), (6, .int (nI (chE en x hh))), (5, .int (nI hh)), (0, .ref a), (1, .ref t), (3, .int (nI (eH en x))), (4, .ref (t + 1 + 1))] [] z M := by
  intro k
  induction k using Nat.strongRecOn with
  | ind k ih =>
  intro j M hk hj hfr h7 hc
  have hM : trR M t bl tip en := h.fr (fun q h1 h2 => hfr.at1 (by omega))
  obtain ⟨hT, hrw, ⟨fh, hfh, hfhX⟩, ⟨fb, fht, ftm, fbi, hfb, hfht, hftm, hfbi, hEX⟩, ⟨fto, hfto, hftoX⟩, ⟨fid, hfid, hfidX⟩, ⟨fc, hfc, hfcX⟩, ⟨fm, hfm⟩, hl113, hlen, hen, hst, hwf, htip⟩ := id hM
  obtain ⟨hO1, hle1, hoff1, f1, g1, hf1, hg1, hX1⟩ := id hrw
  rw [List.length_map] at hO1 hle1
  have hup := hwf.up (k := x) (by omega) (eH en x - hh) (by omega)
  have hkx : chE en x hh < bl.length := by unfold chE; omega
  have hbW := hbx (chE en x hh) hkx
  have hlen9 := hbW.len
  have hA : isA f1 (offL (bl.map Prod.fst) (chE en x hh)) (bBy bl (chE en x hh)) := by have q := hX1.2 (chE en x hh) (by rw [List.length_map]; exact hkx); rw [rowL_bl] at q; exact q
  have hom := offL_mono (bl.map Prod.fst) (bl.map Prod.fst).length (chE en x hh + 1) (by rw [List.length_map]; exact hkx)
  have hos : offL (bl.map Prod.fst) (chE en x hh + 1) = offL (bl.map Prod.fst) (chE en x hh) + (bBy bl (chE en x hh)).length := by simp only [offL]; rw [rowL_bl]
  have hcb9 := hcb hh hhe j hj
  have hxe := hwf.ht (k := x) (by omega)
  obtain ⟨hOc, -⟩ := id hc
  obtain ⟨hbf1, hbf2, hbf3, hbf4, hbf5, hbf6, hbf7⟩ := hbW.f
  refine hz_iload (pc := 91) 0 (hz_dec kX1_replay 48 rfl) rfl ?_
  refine hz_iload (pc := 93) 1 (hz_dec kX1_replay 49 rfl) rfl ?_
  refine hz_n_ge (pc := 95) (tgt := 141) (hz_dec kX1_replay 50 rfl) (by decide) (by omega) (by omega) (fun h1 => ?_) (fun h1 => ?_)
  · skip
    have e : j = bkN (bBy bl (chE en x hh)) := by omega
    refine hz_pick (pc := 141) [5, 6, 7, 8, 9] rfl ?_
    refine K9 M hfr h7 ?_
    rw [e] at hc
    exact hc
  · skip
    obtain ⟨t1, t2, t3, t4, t5⟩ := hbW.t h1
    have tA : isA f1 (offL (bl.map Prod.fst) (chE en x hh) + bkS (bBy bl (chE en x hh)) j) (bkT (bBy bl (chE en x hh)) j) := hbW.A hA h1
    refine hz_aloadn (pc := 98) 6 (hz_dec kX1_replay 51 rfl) rfl ?_
    refine hz_aload (pc := 99) 9 (hz_dec kX1_replay 52 rfl) rfl ?_
    refine hz_iload (pc := 101) 3 (hz_dec kX1_replay 53 rfl) rfl ?_
    refine hz_aloadn (pc := 103) 7 (hz_dec kX1_replay 54 rfl) rfl ?_
    refine hz_get (pc := 104) (hz_dec kX1_replay 55 rfl) fo_X1_95 hT (by omega) (by omega) rfl ?_
    refine hz_bipush (pc := 107) (v := nI 8) (hz_dec kX1_replay 56 rfl) (by decide) ?_
    refine hz_iload (pc := 109) 4 (hz_dec kX1_replay 57 rfl) rfl ?_
    refine hz_mulN (pc := 111) (hz_dec kX1_replay 58 rfl) ?_
    refine hz_iload (pc := 112) 0 (hz_dec kX1_replay 59 rfl) rfl ?_
    refine hz_addN (pc := 114) (hz_dec kX1_replay 60 rfl) ?_
    refine hz_lald (pc := 115) (j := (8 * (chE en x hh)) + j) (hz_dec kX1_replay 61 rfl) hfid (by omega) (by omega) rfl (by omega) (by decide) ?_
    refine hz_eql (pc := 116) (hfidX (chE en x hh) hkx j h1) ?_
    refine hz_iload (pc := 116) 5 (hz_dec kX1_replay 62 rfl) rfl ?_
    refine hz_callV (pc := 118) (a := a) (As := [.ref (t + 1 + 1), .int (nI (offL (bl.map Prod.fst) (chE en x hh) + bkS (bBy bl (chE en x hh)) j)), .long (idS (bkT (bBy bl (chE en x hh)) j)), .int (nI hh)]) (st := []) (hz_dec kX1_replay 63 rfl) co_X1_98 im_X1_apply se_X1_apply rfl hOc (by omega) (by omega) (c_coAp hc (by omega) hza hf1 (by omega) (by omega) (by decide) tA (by omega) t2 (by omega) (by omega)) rfl (by decide) ⟨Nat.le_refl _, Nat.le_refl _⟩ (Nat.le_of_ble_eq_true rfl) rfl (fun r9 z9 M2 hp9 => ?_)
    obtain ⟨rfl, rfl, hf2, hc2⟩ := hp9
    have hfr2 : frS [(a, a + 7)] M0 M2 := hfr.tr hf2
    have hf1b : M2 (t + 1 + 1) = .inl (1, 12391, .inl f1) := (hf2.at1 (by omega)).trans hf1
    have h7b : M2 (a + 7) = .inl (0, 113, .inl fl) := (hf2.at1 (by omega)).trans h7
    refine hz_iload (pc := 121) 3 (hz_dec kX1_replay 64 rfl) rfl ?_
    refine hz_aload (pc := 123) 9 (hz_dec kX1_replay 65 rfl) rfl ?_
    refine hz_iload (pc := 125) 3 (hz_dec kX1_replay 66 rfl) rfl ?_
    refine hz_iload (pc := 127) 2 (hz_dec kX1_replay 67 rfl) rfl ?_
    refine hz_xS (pc := 129) (As := [.ref (t + 1 + 1), .int (nI (offL (bl.map Prod.fst) (chE en x hh) + bkS (bBy bl (chE en x hh)) j)), .int (nI (offL (bl.map Prod.fst) (chE en x hh) + (bBy bl (chE en x hh)).length))]) (st := [.int (nI (offL (bl.map Prod.fst) (chE en x hh) + bkS (bBy bl (chE en x hh)) j))]) (hz_dec kX1_replay 68 rfl) co_X1_102 sc_X0_transactionLength (c_txl hf1b (by omega) (by omega) (by decide) (by omega) (by omega)) rfl (by decide) ⟨Nat.le_refl _, Nat.le_refl _⟩ (Nat.le_of_ble_eq_true rfl) rfl ?_
    refine hz_eqi (pc := 132) (show _ = nI (bkT (bBy bl (chE en x hh)) j).length by rw [tx_len_sh hA (by omega), t5]) ?_
    refine hz_addN (pc := 132) (hz_dec kX1_replay 69 rfl) ?_
    refine hz_eqi (pc := 133) (show _ = nI (offL (bl.map Prod.fst) (chE en x hh) + bkS (bBy bl (chE en x hh)) (j + 1)) by rw [t1]; congr 1; omega) ?_
    refine hz_istore (pc := 133) (i := 7) (lo2 := [(7, .int (nI (offL (bl.map Prod.fst) (chE en x hh) + bkS (bBy bl (chE en x hh)) (j + 1)))), (10, .int (nI j)), (9, .int (nI (bkN (bBy bl (chE en x hh))))), (8, .int (nI (offL (bl.map Prod.fst) (chE en x hh) + (bBy bl (chE en x hh)).length))), (6, .int (nI (chE en x hh))), (5, .int (nI hh)), (0, .ref a), (1, .ref t), (3, .int (nI (eH en x))), (4, .ref (t + 1 + 1))]) (hz_dec kX1_replay 70 rfl) (by decide) rfl ?_
    refine hz_incN (pc := 135) (i := 10) (lo2 := [(10, .int (nI (j + 1))), (7, .int (nI (offL (bl.map Prod.fst) (chE en x hh) + bkS (bBy bl (chE en x hh)) (j + 1)))), (9, .int (nI (bkN (bBy bl (chE en x hh))))), (8, .int (nI (offL (bl.map Prod.fst) (chE en x hh) + (bBy bl (chE en x hh)).length))), (6, .int (nI (chE en x hh))), (5, .int (nI hh)), (0, .ref a), (1, .ref t), (3, .int (nI (eH en x))), (4, .ref (t + 1 + 1))]) 1 (hz_dec kX1_replay 71 rfl) rfl (by decide) rfl ?_
    refine hz_goto (pc := 138) (tgt := 91) (hz_dec kX1_replay 72 rfl) (by decide) ?_
    refine hz_pick (pc := 91) [0, 2, 3, 1, 4, 5, 6, 7, 8, 9] rfl ?_
    exact ih (bkN (bBy bl (chE en x hh)) - (j + 1)) (by omega) (j + 1) M2 rfl (by omega) hfr2 h7b hc2
set_option maxHeartbeats 4000000 in
set_option maxRecDepth 100000 in
theorem c_rep_o {κ : hz_C} {z : Nat} {M0 : hz_M} {t : Nat} {bl : List bk_B} {tip : Nat} {en : List en_E} (h : trR M0 t bl tip en) (ht8 : 63 ≤ t) (htz : t + 13 ≤ z) {a : Nat} (ha : 26 ≤ a) (hza : a + 8 ≤ z) (hat : a + 8 ≤ t ∨ t + 13 ≤ a) {x : Nat} (hx : x < bl.length) (hbx : blX bl) (hcb : cbX bl en x) {fl : Nat → Int32} (hfl : ∀ h, h ≤ eH en x → fl h = nI (chE en x h)) : ∀ k hh M, k = eH en x + 1 - hh → hh ≤ eH en x + 1 → frS [(a, a + 7)] M0 M → M (a + 7) = .inl (0, 113, .inl fl) → coR M a (coC bl en x hh) → hz_W κ xX1_replay 3 0 0 (fun r z2 M2 => none = r ∧ z = z2 ∧ frS [(a, a + 7)] M0 M2 ∧ coR M2 a (coAt bl en x)) 0 0 27 [(5, .int (nI hh)), (0, .ref a), (1, .ref t), (3, .int (nI (eH en x))), (4, .ref (t + 1 + 1))] [] z M := by
  intro k
  induction k using Nat.strongRecOn with
  | ind k ih =>
  intro hh M hk hhe hfr h7 hc
  have hM : trR M t bl tip en := h.fr (fun q h1 h2 => hfr.at1 (by omega))
  obtain ⟨hT, hrw, ⟨fh, hfh, hfhX⟩, ⟨fb, fht, ftm, fbi, hfb, hfht, hftm, hfbi, hEX⟩, ⟨fto, hfto, hftoX⟩, ⟨fid, hfid, hfidX⟩, ⟨fc, hfc, hfcX⟩, ⟨fm, hfm⟩, hl113, hlen, hen, hst, hwf, htip⟩ := id hM
  obtain ⟨hO1, hle1, hoff1, f1, g1, hf1, hg1, hX1⟩ := id hrw
  rw [List.length_map] at hO1 hle1
  have hxe := hwf.ht (k := x) (by omega)
  obtain ⟨hOc, -⟩ := id hc
  refine hz_iload (pc := 27) 0 (hz_dec kX1_replay 15 rfl) rfl ?_
  refine hz_iloadn (pc := 29) 3 (hz_dec kX1_replay 16 rfl) rfl ?_
  refine hz_n_gt (pc := 30) (tgt := 147) (hz_dec kX1_replay 17 rfl) (by decide) (by omega) (by omega) (fun h1 => ?_) (fun h1 => ?_)
  · skip
    have e : hh = eH en x + 1 := by omega
    refine hz_vret (pc := 147) (hz_dec kX1_replay 75 rfl) rfl ⟨rfl, rfl, hfr, ?_⟩
    rw [e] at hc
    exact hc
  · skip
    have hup := hwf.up (k := x) (by omega) (eH en x - hh) (by omega)
    have hkx : chE en x hh < bl.length := by unfold chE; omega
    have hbW := hbx (chE en x hh) hkx
    have hlen9 := hbW.len
    have hA : isA f1 (offL (bl.map Prod.fst) (chE en x hh)) (bBy bl (chE en x hh)) := by have q := hX1.2 (chE en x hh) (by rw [List.length_map]; exact hkx); rw [rowL_bl] at q; exact q
    have hom := offL_mono (bl.map Prod.fst) (bl.map Prod.fst).length (chE en x hh + 1) (by rw [List.length_map]; exact hkx)
    have hos : offL (bl.map Prod.fst) (chE en x hh + 1) = offL (bl.map Prod.fst) (chE en x hh) + (bBy bl (chE en x hh)).length := by simp only [offL]; rw [rowL_bl]
    obtain ⟨hbf1, hbf2, hbf3, hbf4, hbf5, hbf6, hbf7⟩ := hbW.f
    refine hz_aloadn (pc := 33) 1 (hz_dec kX1_replay 18 rfl) rfl ?_
    refine hz_get (pc := 34) (hz_dec kX1_replay 19 rfl) fo_X1_32 hOc (by omega) (by omega) rfl ?_
    refine hz_iload (pc := 37) 0 (hz_dec kX1_replay 20 rfl) rfl ?_
    refine hz_iald (pc := 39) (j := hh) (hz_dec kX1_replay 21 rfl) h7 (by omega) (by omega) rfl (by omega) (by decide) ?_
    refine hz_eqi (pc := 40) (hfl (hh) (by omega)) ?_
    refine hz_istore (pc := 40) (i := 6) (lo2 := [(6, .int (nI (chE en x (hh)))), (5, .int (nI hh)), (0, .ref a), (1, .ref t), (3, .int (nI (eH en x))), (4, .ref (t + 1 + 1))]) (hz_dec kX1_replay 22 rfl) (by decide) rfl ?_
    refine hz_aloadn (pc := 42) 3 (hz_dec kX1_replay 23 rfl) rfl ?_
    refine hz_get (pc := 43) (hz_dec kX1_replay 24 rfl) fo_X1_77 hT (by omega) (by omega) rfl ?_
    refine hz_get (pc := 46) (hz_dec kX1_replay 25 rfl) fo_X1_87 hO1 (by omega) (by omega) rfl ?_
    refine hz_iload (pc := 49) 0 (hz_dec kX1_replay 26 rfl) rfl ?_
    refine hz_iald (pc := 51) (j := chE en x (hh)) (hz_dec kX1_replay 27 rfl) hg1 (by omega) (by omega) rfl (by omega) (by decide) ?_
    refine hz_eqi (pc := 52) (hX1.1 (chE en x (hh)) (by rw [List.length_map]; omega)) ?_
    refine hz_istore (pc := 52) (i := 7) (lo2 := [(7, .int (nI (offL (bl.map Prod.fst) (chE en x (hh))))), (6, .int (nI (chE en x (hh)))), (5, .int (nI hh)), (0, .ref a), (1, .ref t), (3, .int (nI (eH en x))), (4, .ref (t + 1 + 1))]) (hz_dec kX1_replay 28 rfl) (by decide) rfl ?_
    refine hz_aloadn (pc := 54) 4 (hz_dec kX1_replay 29 rfl) rfl ?_
    refine hz_get (pc := 55) (hz_dec kX1_replay 30 rfl) fo_X1_77 hT (by omega) (by omega) rfl ?_
    refine hz_get (pc := 58) (hz_dec kX1_replay 31 rfl) fo_X1_87 hO1 (by omega) (by omega) rfl ?_
    refine hz_iload (pc := 61) 1 (hz_dec kX1_replay 32 rfl) rfl ?_
    refine hz_iconst (pc := 63) (v := nI 1) (hz_dec kX1_replay 33 rfl) (by decide) ?_
    refine hz_addN (pc := 64) (hz_dec kX1_replay 34 rfl) ?_
    refine hz_iald (pc := 65) (j := (chE en x (hh)) + 1) (hz_dec kX1_replay 35 rfl) hg1 (by omega) (by omega) rfl (by omega) (by decide) ?_
    refine hz_eqi (pc := 66) (hX1.1 ((chE en x (hh)) + 1) (by rw [List.length_map]; omega)) ?_
    refine hz_istore (pc := 66) (i := 8) (lo2 := [(8, .int (nI (offL (bl.map Prod.fst) ((chE en x (hh)) + 1)))), (7, .int (nI (offL (bl.map Prod.fst) (chE en x (hh))))), (6, .int (nI (chE en x (hh)))), (5, .int (nI hh)), (0, .ref a), (1, .ref t), (3, .int (nI (eH en x))), (4, .ref (t + 1 + 1))]) (hz_dec kX1_replay 36 rfl) (by decide) rfl ?_
    refine hz_bipush (pc := 68) (v := nI 8) (hz_dec kX1_replay 37 rfl) (by decide) ?_
    refine hz_aload (pc := 70) 7 (hz_dec kX1_replay 38 rfl) rfl ?_
    refine hz_iload (pc := 72) 1 (hz_dec kX1_replay 39 rfl) rfl ?_
    refine hz_bipush (pc := 74) (v := nI 80) (hz_dec kX1_replay 40 rfl) (by decide) ?_
    refine hz_addN (pc := 76) (hz_dec kX1_replay 41 rfl) ?_
    refine hz_xS (pc := 77) (As := [.ref (t + 1 + 1), .int (nI ((offL (bl.map Prod.fst) (chE en x (hh))) + 80))]) (st := [.int (nI 8)]) (hz_dec kX1_replay 42 rfl) co_X1_45 sc_X0_one (c_one hf1 (by omega) (by omega) (by decide) (by omega)) rfl (by decide) ⟨Nat.le_refl _, Nat.le_refl _⟩ (Nat.le_of_ble_eq_true rfl) rfl ?_
    refine hz_eqi (pc := 80) (show _ = nI (bkN (bBy bl (chE en x hh))) by rw [hA 80 (by omega), hbf3]) ?_
    refine hz_xS (pc := 80) (As := [.int (nI 8), .int (nI (bkN (bBy bl (chE en x hh))))]) (st := []) (hz_dec kX1_replay 43 rfl) co_X1_90 sc_J9_min_7cf53 (c_min (by omega) (by omega)) rfl (by decide) ⟨Nat.le_refl _, Nat.le_refl _⟩ (Nat.le_of_ble_eq_true rfl) rfl ?_
    refine hz_eqi (pc := 83) (show _ = nI (bkN (bBy bl (chE en x hh))) by rw [Nat.min_eq_right (by omega)]) ?_
    refine hz_istore (pc := 83) (i := 9) (lo2 := [(9, .int (nI (bkN (bBy bl (chE en x hh))))), (8, .int (nI (offL (bl.map Prod.fst) ((chE en x (hh)) + 1)))), (7, .int (nI (offL (bl.map Prod.fst) (chE en x (hh))))), (6, .int (nI (chE en x (hh)))), (5, .int (nI hh)), (0, .ref a), (1, .ref t), (3, .int (nI (eH en x))), (4, .ref (t + 1 + 1))]) (hz_dec kX1_replay 44 rfl) (by decide) rfl ?_
    refine hz_iinc (pc := 85) (i := 7) (w := nI (offL (bl.map Prod.fst) (chE en x (hh)) + 81)) (lo2 := [(7, .int (nI (offL (bl.map Prod.fst) (chE en x (hh)) + 81))), (9, .int (nI (bkN (bBy bl (chE en x hh))))), (8, .int (nI (offL (bl.map Prod.fst) ((chE en x (hh)) + 1)))), (6, .int (nI (chE en x (hh)))), (5, .int (nI hh)), (0, .ref a), (1, .ref t), (3, .int (nI (eH en x))), (4, .ref (t + 1 + 1))]) 2 (hz_dec kX1_replay 45 rfl) rfl (nI_add _ 81) (by decide) rfl ?_
    refine hz_iconst (pc := 88) (v := nI 0) (hz_dec kX1_replay 46 rfl) (by decide) ?_
    refine hz_istore (pc := 89) (i := 10) (lo2 := [(10, .int (nI 0)), (7, .int (nI (offL (bl.map Prod.fst) (chE en x (hh)) + 81))), (9, .int (nI (bkN (bBy bl (chE en x hh))))), (8, .int (nI (offL (bl.map Prod.fst) ((chE en x (hh)) + 1)))), (6, .int (nI (chE en x (hh)))), (5, .int (nI hh)), (0, .ref a), (1, .ref t), (3, .int (nI (eH en x))), (4, .ref (t + 1 + 1))]) (hz_dec kX1_replay 47 rfl) (by decide) rfl ?_
    rw [hos]
    refine hz_pick (pc := 91) [0, 2, 3, 1, 4, 5, 6, 7, 8, 9] rfl ?_
    refine c_rep_i h ht8 htz ha hza hat hx hbx hcb hfl (by omega) (fun M2 hfr2 h72 hc2 => ?_) (bkN (bBy bl (chE en x hh))) 0 M rfl (by omega) hfr h7 hc
    refine hz_incN (pc := 141) (i := 5) (lo2 := [(5, .int (nI (hh + 1))), (0, .ref a), (1, .ref t), (3, .int (nI (eH en x))), (4, .ref (t + 1 + 1))]) 0 (hz_dec kX1_replay 73 rfl) rfl (by decide) rfl ?_
    refine hz_goto (pc := 144) (tgt := 27) (hz_dec kX1_replay 74 rfl) (by decide) ?_
    refine hz_pick (pc := 27) [0, 1, 2, 3, 4] rfl ?_
    exact ih (eH en x + 1 - (hh + 1)) (by omega) (hh + 1) M2 rfl (by omega) hfr2 h72 hc2
set_option maxHeartbeats 4000000 in
set_option maxRecDepth 100000 in
theorem c_rep {κ : hz_C} {z : Nat} {M : hz_M} {t : Nat} {bl : List bk_B} {tip : Nat} {en : List en_E} (h : trR M t bl tip en) (ht8 : 63 ≤ t) (htz : t + 13 ≤ z) {a : Nat} {cs0 : List co_C} (hc0 : coR M a cs0) (ha : 26 ≤ a) (hza : a + 8 ≤ z) (hat : a + 8 ≤ t ∨ t + 13 ≤ a) {x : Nat} (hx : x < bl.length) (hbx : blX bl) (hcb : cbX bl en x) : hz_Mt κ xX1_replay 3 0 0 [.ref a, .ref t, .int (nI x)] z M (fun r z2 M2 => none = r ∧ z = z2 ∧ frS [(a, a + 8)] M M2 ∧ coR M2 a (coAt bl en x)) := by
  refine hz_ent (lo := [(0, .ref a), (1, .ref t), (2, .int (nI x))]) (by decide) (Nat.le_of_ble_eq_true rfl) rfl ?_
  obtain ⟨hT, hrw, ⟨fh, hfh, hfhX⟩, ⟨fb, fht, ftm, fbi, hfb, hfht, hftm, hfbi, hEX⟩, ⟨fto, hfto, hftoX⟩, ⟨fid, hfid, hfidX⟩, ⟨fc, hfc, hfcX⟩, ⟨fm, hfm⟩, hl113, hlen, hen, hst, hwf, htip⟩ := id h
  obtain ⟨hO1, hle1, hoff1, f1, g1, hf1, hg1, hX1⟩ := id hrw
  rw [List.length_map] at hO1 hle1
  have hxe := hwf.ht (k := x) (by omega)
  obtain ⟨hOc, hle, ⟨f7, h7⟩, c1, c2, c3, c4, c5, c6, k1, k2, k3, k4, k5, k6, hcX⟩ := id hc0
  refine hz_aloadn (pc := 0) 0 (hz_dec kX1_replay 0 rfl) rfl ?_
  refine hz_iconst (pc := 1) (v := nI 0) (hz_dec kX1_replay 1 rfl) (by decide) ?_
  refine hz_puti (pc := 2) (hz_dec kX1_replay 2 rfl) fo_X1_35 ft_X1_6 hOc (by omega) (by omega) (Nat.le_of_ble_eq_true rfl) ?_
  refine hz_mem (pc := 5) (M2 := (va_up M a (.inr (1, [.ref (a + 1), .ref (a + 2), .ref (a + 3), .ref (a + 4), .ref (a + 5), .ref (a + 6), .int (nI 0), .ref (a + 7)])))) rfl ?_
  refine hz_aloadn (pc := 5) 1 (hz_dec kX1_replay 3 rfl) rfl ?_
  refine hz_iloadn (pc := 6) 2 (hz_dec kX1_replay 4 rfl) rfl ?_
  refine hz_aloadn (pc := 7) 0 (hz_dec kX1_replay 5 rfl) rfl ?_
  refine hz_get (pc := 8) (hz_dec kX1_replay 6 rfl) fo_X1_32 (va_up_self _ _ _) (by omega) (by omega) rfl ?_
  have hTA : trR (va_up M a (.inr (1, [.ref (a + 1), .ref (a + 2), .ref (a + 3), .ref (a + 4), .ref (a + 5), .ref (a + 6), .int (nI 0), .ref (a + 7)]))) t bl tip en := h.fr (fun q h1 h2 => va_up_ne _ _ (by omega))
  refine hz_callV (pc := 11) (a := t) (As := [.int (nI x), .ref (a + 7)]) (st := []) (hz_dec kX1_replay 7 rfl) co_X1_71 im_X10_follow se_X10_follow rfl (hz_mne hT (by omega)) (by omega) (by omega) (c_trFo hTA.q ht8 htz (hz_mne h7 (by omega)) (by omega) (by omega) (by decide) (by omega) hx (by omega)) rfl (by decide) ⟨Nat.le_refl _, Nat.le_refl _⟩ (Nat.le_of_ble_eq_true rfl) rfl (fun r9 z9 M9 hp9 => ?_)
  obtain ⟨rfl, rfl, fl, hfl, rfl⟩ := hp9
  refine hz_istoren (pc := 14) (i := 3) (lo2 := [(3, .int (nI (eH en x))), (0, .ref a), (1, .ref t), (2, .int (nI x))]) (hz_dec kX1_replay 8 rfl) rfl (by decide) rfl ?_
  refine hz_aloadn (pc := 15) 2 (hz_dec kX1_replay 9 rfl) rfl ?_
  refine hz_get (pc := 16) (hz_dec kX1_replay 10 rfl) fo_X1_77 (hz_mne (hz_mne hT (by omega)) (by omega)) (by omega) (by omega) rfl ?_
  refine hz_get (pc := 19) (hz_dec kX1_replay 11 rfl) fo_X1_81 (hz_mne (hz_mne hO1 (by omega)) (by omega)) (by omega) (by omega) rfl ?_
  refine hz_astore (pc := 22) (i := 4) (lo2 := [(4, .ref (t + 1 + 1)), (3, .int (nI (eH en x))), (0, .ref a), (1, .ref t), (2, .int (nI x))]) (hz_dec kX1_replay 12 rfl) (by decide) rfl ?_
  refine hz_iconst (pc := 24) (v := nI 0) (hz_dec kX1_replay 13 rfl) (by decide) ?_
  refine hz_istore (pc := 25) (i := 5) (lo2 := [(5, .int (nI 0)), (4, .ref (t + 1 + 1)), (3, .int (nI (eH en x))), (0, .ref a), (1, .ref t), (2, .int (nI x))]) (hz_dec kX1_replay 14 rfl) (by decide) rfl ?_
  refine hz_pick (pc := 27) [0, 3, 4, 2, 1] rfl ?_
  have hT1 : trR (va_up (va_up M a (.inr (1, [.ref (a + 1), .ref (a + 2), .ref (a + 3), .ref (a + 4), .ref (a + 5), .ref (a + 6), .int (nI 0), .ref (a + 7)]))) (a + 7) (.inl (0, 113, .inl (fl)))) t bl tip en := hTA.fr (fun q h1 h2 => va_up_ne _ _ (by omega))
  have hc1 : coR (va_up (va_up M a (.inr (1, [.ref (a + 1), .ref (a + 2), .ref (a + 3), .ref (a + 4), .ref (a + 5), .ref (a + 6), .int (nI 0), .ref (a + 7)]))) (a + 7) (.inl (0, 113, .inl (fl)))) a [] := ⟨(hz_mne (va_up_self _ _ _) (by omega)), Nat.zero_le _, ⟨fl, va_up_self _ _ _⟩, c1, c2, c3, c4, c5, c6, hz_mne (hz_mne k1 (by omega)) (by omega), hz_mne (hz_mne k2 (by omega)) (by omega), hz_mne (hz_mne k3 (by omega)) (by omega), hz_mne (hz_mne k4 (by omega)) (by omega), hz_mne (hz_mne k5 (by omega)) (by omega), hz_mne (hz_mne k6 (by omega)) (by omega), fun j hj => absurd hj (Nat.not_lt_zero j)⟩
  refine hz_wk (c_rep_o (M0 := (va_up (va_up M a (.inr (1, [.ref (a + 1), .ref (a + 2), .ref (a + 3), .ref (a + 4), .ref (a + 5), .ref (a + 6), .int (nI 0), .ref (a + 7)]))) (a + 7) (.inl (0, 113, .inl (fl))))) hT1 ht8 htz ha hza hat hx hbx hcb hfl (eH en x + 1) 0 _ rfl (by omega) frS.rf (va_up_self _ _ _) hc1) (fun r z2 M2 hp => ?_)
  obtain ⟨q1, q2, q3, q4⟩ := hp
  refine ⟨q1, q2, fun q hq => ?_, q4⟩
  simp only [outS, and_true] at hq
  exact (q3.at1 (by omega)).trans (hz_mne (hz_mne rfl (by omega)) (by omega))
