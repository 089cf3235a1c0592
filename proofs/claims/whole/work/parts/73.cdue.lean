/-! Tree: dueBits -/
theorem tgR_b {t : Int32} (h : tgR t = true) : 4 ≤ tgE t ∧ tgE t ≤ 32 ∧ tgT t ≤ tgT 537919487 := by
  have q := of_decide_eq_true h
  have q4 : tgM t ≤ 8388607 := by have r := q.2.2.2; split at r <;> omega
  exact ⟨q.1, q.2.1, (tg_le q.1 q.2.1 q4).mpr q.2.2.2⟩
theorem ck_w.up21 {M : hz_M} {f : Nat → Int32} (h : ck_w M) : ck_w (va_up M 21 (.inl (0, 8, .inl f))) := by
  obtain ⟨wb, h20, h21, ⟨f2, h22⟩, ⟨f3, h23⟩, ⟨f4, h24, hq⟩⟩ := h
  exact ⟨wb, hz_mne h20 (by decide), ⟨f, va_up_self _ _ _⟩, ⟨f2, hz_mne h22 (by decide)⟩, ⟨f3, hz_mne h23 (by decide)⟩, ⟨f4, hz_mne h24 (by decide), hq⟩⟩
theorem sp_of {a b : Int32} (ha : ¬ a < 0) (hb : ¬ b < 0) : (if nI 40 < (if a - b < nI 640 then a - b else nI 640) then (if a - b < nI 640 then a - b else nI 640) else nI 40) = nI (max 40 (min 640 (a.toInt - b.toInt))).toNat := by
  obtain ⟨i, hi, rfl⟩ := nI_of ha
  obtain ⟨j, hj, rfl⟩ := nI_of hb
  have e : (nI i - nI j).toInt = (i : Int) - j := by rw [Int32.toInt_sub, nI_toInt hi, nI_toInt hj, Int.bmod_eq_of_le (by omega) (by omega)]
  rw [nI_toInt hi, nI_toInt hj]
  have e6 : (nI i - nI j < nI 640) ↔ (i : Int) - j < 640 := by rw [Int32.lt_iff_toInt_lt, e, nI_toInt (by decide)]; rfl
  by_cases c : (i : Int) - j < 640
  · rw [if_pos (e6.mpr c)]
    have e4 : (nI 40 < nI i - nI j) ↔ (40 : Int) < (i : Int) - j := by rw [Int32.lt_iff_toInt_lt, e, nI_toInt (by decide)]; rfl
    by_cases c2 : (40 : Int) < (i : Int) - j
    · rw [if_pos (e4.mpr c2)]
      apply Int32.toInt_inj.mp
      rw [e, nI_toInt (by omega)]
      omega
    · rw [if_neg (fun q => c2 (e4.mp q))]
      congr 1
      omega
  · rw [if_neg (fun q => c (e6.mp q)), if_pos (by decide)]
    congr 1
    omega
set_option maxHeartbeats 4000000 in
set_option maxRecDepth 100000 in
theorem c_due_l {κ : hz_C} {z : Nat} {M : hz_M} {t : Nat} {bl : List bk_B} {tip : Nat} {en : List en_E} (h : trR M t bl tip en) (ht8 : 63 ≤ t) (htz : t + 13 ≤ z) (hw : ck_w M) {x : Nat} (hx : x < en.length) (h16 : (eH en x + 1) % 16 = 0) : ∀ k i, k = 16 - i → 1 ≤ i → i ≤ 16 → hz_W κ xX10_dueBits 3 0 0 (fun r z2 M2 => some (.int (dueE en x)) = r ∧ z = z2 ∧ frS [(21, 22)] M M2 ∧ ck_w M2) 0 0 40 [(3, .int (nI i)), (2, .int (nI (upE en x (i - 1)))), (0, .ref t), (1, .int (nI x))] [] z M := by
  intro k
  induction k using Nat.strongRecOn with
  | ind k ih =>
  intro i hk hi1 hi
  obtain ⟨hT, hrw, ⟨fh, hfh, hfhX⟩, ⟨fb, fht, ftm, fbi, hfb, hfht, hftm, hfbi, hEX⟩, ⟨fto, hfto, hftoX⟩, ⟨fid, hfid, hfidX⟩, ⟨fc, hfc, hfcX⟩, ⟨fm, hfm⟩, hl113, hlen, hen, hst, hwf, htip⟩ := id h
  obtain ⟨hO1, hle1, hoff1, f1, g1, hf1, hg1, hX1⟩ := id hrw
  rw [List.length_map] at hO1 hle1
  have hup := hwf.up hx (i - 1) (by omega)
  have hwx := hwf x hx
  refine hz_iloadn (pc := 40) 0 (hz_dec kX10_dueBits 27 rfl) rfl ?_
  refine hz_bipush (pc := 41) (v := nI 16) (hz_dec kX10_dueBits 28 rfl) (by decide) ?_
  refine hz_n_ge (pc := 43) (tgt := 68) (hz_dec kX10_dueBits 29 rfl) (by decide) (by omega) (by omega) (fun h1 => ?_) (fun h1 => ?_)
  · skip
    have e : i = 16 := by omega
    subst e
    obtain ⟨wb, h20, ⟨f21, h21⟩, -⟩ := id hw
    have r1 := (tgR_b hwx.2.2.2).1
    have r2 := (tgR_b hwx.2.2.2).2.1
    refine hz_aloadn (pc := 68) 2 (hz_dec kX10_dueBits 42 rfl) rfl ?_
    refine hz_get (pc := 69) (hz_dec kX10_dueBits 43 rfl) fo_X10_50 hT (by omega) (by omega) rfl ?_
    refine hz_aloadn (pc := 72) 2 (hz_dec kX10_dueBits 44 rfl) rfl ?_
    refine hz_get (pc := 73) (hz_dec kX10_dueBits 45 rfl) fo_X10_34 hT (by omega) (by omega) rfl ?_
    refine hz_iloadn (pc := 76) 3 (hz_dec kX10_dueBits 46 rfl) rfl ?_
    refine hz_iald (pc := 77) (j := x) (hz_dec kX10_dueBits 47 rfl) hfbi (by omega) (by omega) rfl (by omega) (by decide) ?_
    refine hz_eqi (pc := 78) (hEX (x) (by omega)).2.2.2 ?_
    refine hz_callV (pc := 78) (a := 20) (As := [.int (eB en (x))]) (st := []) (hz_dec kX10_dueBits 48 rfl) co_X10_121 im_X9_load se_X9_load rfl h20 (by decide) (by omega) (c_load h20 (by omega) h21 (by omega) r2) rfl (by decide) ⟨Nat.le_refl _, Nat.le_refl _⟩ (Nat.le_of_ble_eq_true rfl) rfl (fun r9 z9 M9 hp9 => ?_)
    obtain ⟨rfl, rfl, fa, hfa, rfl⟩ := hp9
    refine hz_aloadn (pc := 81) 2 (hz_dec kX10_dueBits 49 rfl) rfl ?_
    refine hz_get (pc := 82) (hz_dec kX10_dueBits 50 rfl) fo_X10_50 (hz_mne hT (by omega)) (by omega) (by omega) rfl ?_
    refine hz_bipush (pc := 85) (v := nI 40) (hz_dec kX10_dueBits 51 rfl) (by decide) ?_
    refine hz_sipush (pc := 87) (v := nI 640) (hz_dec kX10_dueBits 52 rfl) (by decide) ?_
    refine hz_aloadn (pc := 90) 2 (hz_dec kX10_dueBits 53 rfl) rfl ?_
    refine hz_get (pc := 91) (hz_dec kX10_dueBits 54 rfl) fo_X10_31 (hz_mne hT (by omega)) (by omega) (by omega) rfl ?_
    refine hz_iloadn (pc := 94) 3 (hz_dec kX10_dueBits 55 rfl) rfl ?_
    refine hz_iald (pc := 95) (j := x) (hz_dec kX10_dueBits 56 rfl) (hz_mne hftm (by omega)) (by omega) (by omega) rfl (by omega) (by decide) ?_
    refine hz_eqi (pc := 96) (hEX (x) (by omega)).2.2.1 ?_
    refine hz_aloadn (pc := 96) 2 (hz_dec kX10_dueBits 57 rfl) rfl ?_
    refine hz_get (pc := 97) (hz_dec kX10_dueBits 58 rfl) fo_X10_31 (hz_mne hT (by omega)) (by omega) (by omega) rfl ?_
    refine hz_iloadn (pc := 100) 1 (hz_dec kX10_dueBits 59 rfl) rfl ?_
    refine hz_iald (pc := 101) (j := upE en x (16 - 1)) (hz_dec kX10_dueBits 60 rfl) (hz_mne hftm (by omega)) (by omega) (by omega) rfl (by omega) (by decide) ?_
    refine hz_eqi (pc := 102) (hEX (upE en x (16 - 1)) (by omega)).2.2.1 ?_
    refine hz_isub (pc := 102) (hz_dec kX10_dueBits 61 rfl) ?_
    refine hz_xS (pc := 103) (As := [.int (nI 640), .int ((eT en (x)) - (eT en (upE en x (16 - 1))))]) (st := [.int (nI 40), .ref 20]) (hz_dec kX10_dueBits 62 rfl) co_X10_58 sc_J9_min_7cf53 (c_minI) rfl (by decide) ⟨Nat.le_refl _, Nat.le_refl _⟩ (Nat.le_of_ble_eq_true rfl) rfl ?_
    refine hz_xS (pc := 106) (As := [.int (nI 40), .int (if (eT en (x) - eT en (upE en x (16 - 1))) < (nI (640)) then (eT en (x) - eT en (upE en x (16 - 1))) else (nI (640)))]) (st := [.ref 20]) (hz_dec kX10_dueBits 63 rfl) co_X10_124 sc_J9_max_7cf53 (c_maxI) rfl (by decide) ⟨Nat.le_refl _, Nat.le_refl _⟩ (Nat.le_of_ble_eq_true rfl) rfl ?_
    have hw15 := hwf (upE en x (16 - 1)) (by omega)
    refine hz_eqi (pc := 109) (show _ = nI (spE en x) from sp_of hwx.2.2.1 hw15.2.2.1) ?_
    have hsp := spE_le en x
    refine hz_callV (pc := 109) (a := 20) (As := [.int (nI (spE en x))]) (st := []) (hz_dec kX10_dueBits 64 rfl) co_X10_127 im_X9_scale se_X9_scale rfl (hz_mne h20 (by omega)) (by decide) (by omega) (c_scale (hz_mne h20 (by decide)) (by omega) (va_up_self _ _ _) (by omega) (by rw [hfa]; exact (tgR_b hwx.2.2.2).2.2)) rfl (by decide) ⟨Nat.le_refl _, Nat.le_refl _⟩ (Nat.le_of_ble_eq_true rfl) rfl (fun r9 z9 M9 hp9 => ?_)
    obtain ⟨rfl, rfl, fb2, hfb2, rfl⟩ := hp9
    refine hz_mem (pc := 112) (M2 := (va_up M 21 (.inl (0, 8, .inl (fb2))))) (bx_uu _ _ _ _) ?_
    refine hz_aloadn (pc := 112) 2 (hz_dec kX10_dueBits 65 rfl) rfl ?_
    refine hz_get (pc := 113) (hz_dec kX10_dueBits 66 rfl) fo_X10_50 (hz_mne hT (by omega)) (by omega) (by omega) rfl ?_
    refine hz_xV (pc := 116) (a := 20) (As := []) (st := []) (hz_dec kX10_dueBits 67 rfl) co_X10_130 im_X9_toBits se_X9_toBits rfl (hz_mne h20 (by omega)) (by decide) (by omega) (c_toBits (hz_mne h20 (by decide)) (by omega) (va_up_self _ _ _)) rfl (by decide) ⟨Nat.le_refl _, Nat.le_refl _⟩ (Nat.le_of_ble_eq_true rfl) rfl ?_
    refine hz_iret (pc := 119) (hz_dec kX10_dueBits 68 rfl) rfl ⟨?_, rfl, frS.up (by simp only [outS, and_true]; omega), hw.up21⟩
    unfold dueE
    rw [if_pos h16, hfb2, hfa]
  · skip
    have hpv := hwf.pv hx (i := i - 1) (by omega)
    rw [show i - 1 + 1 = i by omega] at hpv
    refine hz_aloadn (pc := 46) 2 (hz_dec kX10_dueBits 30 rfl) rfl ?_
    refine hz_get (pc := 47) (hz_dec kX10_dueBits 31 rfl) fo_X10_24 hT (by omega) (by omega) rfl ?_
    refine hz_iloadn (pc := 50) 1 (hz_dec kX10_dueBits 32 rfl) rfl ?_
    refine hz_iald (pc := 51) (j := upE en x (i - 1)) (hz_dec kX10_dueBits 33 rfl) hfb (by omega) (by omega) rfl (by omega) (by decide) ?_
    refine hz_eqi (pc := 52) (hEX (upE en x (i - 1)) (by omega)).1 ?_
    refine hz_eqi (pc := 52) (show _ = nI (upE en x i) by rw [hpv]; rfl) ?_
    have hupi := hwf.up hx i (by omega)
    refine hz_z_lt (pc := 52) (tgt := 68) (hz_dec kX10_dueBits 34 rfl) (by decide) (by omega) ?_
    refine hz_aloadn (pc := 55) 2 (hz_dec kX10_dueBits 35 rfl) rfl ?_
    refine hz_get (pc := 56) (hz_dec kX10_dueBits 36 rfl) fo_X10_24 hT (by omega) (by omega) rfl ?_
    refine hz_iloadn (pc := 59) 1 (hz_dec kX10_dueBits 37 rfl) rfl ?_
    refine hz_iald (pc := 60) (j := upE en x (i - 1)) (hz_dec kX10_dueBits 38 rfl) hfb (by omega) (by omega) rfl (by omega) (by decide) ?_
    refine hz_eqi (pc := 61) (hEX (upE en x (i - 1)) (by omega)).1 ?_
    refine hz_eqi (pc := 61) (show _ = nI (upE en x (i + 1 - 1)) by rw [hpv, show i + 1 - 1 = i from rfl]; rfl) ?_
    have hup2 := hwf.up hx i (by omega)
    refine hz_istoren (pc := 61) (i := 2) (lo2 := [(2, .int (nI (upE en x (i + 1 - 1)))), (3, .int (nI i)), (0, .ref t), (1, .int (nI x))]) (hz_dec kX10_dueBits 39 rfl) rfl (by decide) rfl ?_
    refine hz_incN (pc := 62) (i := 3) (lo2 := [(3, .int (nI (i + 1))), (2, .int (nI (upE en x (i + 1 - 1)))), (0, .ref t), (1, .int (nI x))]) 1 (hz_dec kX10_dueBits 40 rfl) rfl (by decide) rfl ?_
    refine hz_goto (pc := 65) (tgt := 40) (hz_dec kX10_dueBits 41 rfl) (by decide) ?_
    refine hz_pick (pc := 40) [0, 1, 2, 3] rfl ?_
    exact ih (16 - (i + 1)) (by omega) (i + 1) rfl (by omega) (by omega)
set_option maxHeartbeats 4000000 in
set_option maxRecDepth 100000 in
theorem c_due {κ : hz_C} {z : Nat} {M : hz_M} {t : Nat} {bl : List bk_B} {tip : Nat} {en : List en_E} (h : trR M t bl tip en) (ht8 : 63 ≤ t) (htz : t + 13 ≤ z) (hw : ck_w M) {x : Nat} (hx : x < en.length) : hz_Mt κ xX10_dueBits 3 0 0 [.ref t, .int (nI x)] z M (fun r z2 M2 => some (.int (dueE en x)) = r ∧ z = z2 ∧ frS [(21, 22)] M M2 ∧ ck_w M2) := by
  refine hz_ent (lo := [(0, .ref t), (1, .int (nI x))]) (by decide) (Nat.le_of_ble_eq_true rfl) rfl ?_
  obtain ⟨hT, hrw, ⟨fh, hfh, hfhX⟩, ⟨fb, fht, ftm, fbi, hfb, hfht, hftm, hfbi, hEX⟩, ⟨fto, hfto, hftoX⟩, ⟨fid, hfid, hfidX⟩, ⟨fc, hfc, hfcX⟩, ⟨fm, hfm⟩, hl113, hlen, hen, hst, hwf, htip⟩ := id h
  obtain ⟨hO1, hle1, hoff1, f1, g1, hf1, hg1, hX1⟩ := id hrw
  rw [List.length_map] at hO1 hle1
  have hxe := hwf.ht hx
  refine hz_iloadn (pc := 0) 1 (hz_dec kX10_dueBits 0 rfl) rfl ?_
  refine hz_z_lt (pc := 1) (tgt := 13) (hz_dec kX10_dueBits 1 rfl) (by decide) (by omega) ?_
  refine hz_iloadn (pc := 4) 1 (hz_dec kX10_dueBits 2 rfl) rfl ?_
  refine hz_aloadn (pc := 5) 0 (hz_dec kX10_dueBits 3 rfl) rfl ?_
  refine hz_get (pc := 6) (hz_dec kX10_dueBits 4 rfl) fo_X10_34 hT (by omega) (by omega) rfl ?_
  refine hz_alen (pc := 9) (hz_dec kX10_dueBits 5 rfl) hfbi (by decide) (by omega) (by omega) ?_
  refine hz_n_lt (pc := 10) (tgt := 15) (hz_dec kX10_dueBits 6 rfl) (by decide) (by omega) (by omega) (fun h1 => ?_) (fun h1 => ?_)
  · skip
    refine hz_aloadn (pc := 15) 0 (hz_dec kX10_dueBits 9 rfl) rfl ?_
    refine hz_get (pc := 16) (hz_dec kX10_dueBits 10 rfl) fo_X10_28 hT (by omega) (by omega) rfl ?_
    refine hz_iloadn (pc := 19) 1 (hz_dec kX10_dueBits 11 rfl) rfl ?_
    refine hz_iald (pc := 20) (j := x) (hz_dec kX10_dueBits 12 rfl) hfht (by omega) (by omega) rfl (by omega) (by decide) ?_
    refine hz_eqi (pc := 21) (hEX (x) (by omega)).2.1 ?_
    refine hz_iconst (pc := 21) (v := nI 1) (hz_dec kX10_dueBits 13 rfl) (by decide) ?_
    refine hz_addN (pc := 22) (hz_dec kX10_dueBits 14 rfl) ?_
    refine hz_bipush (pc := 23) (v := nI 16) (hz_dec kX10_dueBits 15 rfl) (by decide) ?_
    refine hz_remN (pc := 25) (hz_dec kX10_dueBits 16 rfl) (by omega) (by decide) (by decide) ?_
    refine hz_z_eq (pc := 26) (tgt := 36) (hz_dec kX10_dueBits 17 rfl) (by decide) (by omega) (fun h2 => ?_) (fun h2 => ?_)
    · skip
      refine hz_iloadn (pc := 36) 1 (hz_dec kX10_dueBits 23 rfl) rfl ?_
      refine hz_istoren (pc := 37) (i := 2) (lo2 := [(2, .int (nI x)), (0, .ref t), (1, .int (nI x))]) (hz_dec kX10_dueBits 24 rfl) rfl (by decide) rfl ?_
      refine hz_iconst (pc := 38) (v := nI 1) (hz_dec kX10_dueBits 25 rfl) (by decide) ?_
      refine hz_istoren (pc := 39) (i := 3) (lo2 := [(3, .int (nI 1)), (2, .int (nI x)), (0, .ref t), (1, .int (nI x))]) (hz_dec kX10_dueBits 26 rfl) rfl (by decide) rfl ?_
      refine hz_pick (pc := 40) [0, 1, 2, 3] rfl ?_
      exact c_due_l h ht8 htz hw hx h2 15 1 rfl (by omega) (by omega)
    · skip
      refine hz_aloadn (pc := 29) 0 (hz_dec kX10_dueBits 18 rfl) rfl ?_
      refine hz_get (pc := 30) (hz_dec kX10_dueBits 19 rfl) fo_X10_34 hT (by omega) (by omega) rfl ?_
      refine hz_iloadn (pc := 33) 1 (hz_dec kX10_dueBits 20 rfl) rfl ?_
      refine hz_iald (pc := 34) (j := x) (hz_dec kX10_dueBits 21 rfl) hfbi (by omega) (by omega) rfl (by omega) (by decide) ?_
      refine hz_eqi (pc := 35) (hEX (x) (by omega)).2.2.2 ?_
      exact hz_iret (pc := 35) (hz_dec kX10_dueBits 22 rfl) rfl ⟨by unfold dueE; rw [if_neg (by omega)], rfl, frS.rf, hw⟩
  · skip
    exact absurd h1 (by omega)
