/-! Mail: send, fetch -/
/-- whether a message that is d ticks on its way finds room -/
def sdR (q : List ms_M) (d n : Nat) : Bool := decide (¬ d = 0 ∧ q.length < 200 ∧ msO q q.length + n ≤ 40000)
set_option maxHeartbeats 4000000 in
set_option maxRecDepth 100000 in
theorem c_send {κ : hz_C} {z : Nat} {M : hz_M} (hz : 63 ≤ z) {nn : Nat} {now gone : Int32} {ll : Nat} {fr kn : Int32} (hO : M 45 = mlO nn now gone ll fr kn) (hnn : nn ≤ 6) {q : List ms_M} (hQ : mlQ M q) {b n at_ : Nat} {f : Nat → Int32} {t : by_L} (hB : M b = .inl (1, n, .inl f)) (hb8 : 8 ≤ b) (hbz : b < z) (hbo : b < 45 ∨ 53 ≤ b) (hn : n < 2 ^ 24) (ht : isA f at_ t) (hat : at_ + t.length ≤ n) (hl4 : t.length ≤ 4000) {by_ d : Nat} {to_ kd : Int32} (hdl : hz_Mt κ xX5_delayOf 0 0 0 [.ref 45, .int (nI by_), .int to_] z M (hz_ex (some (.int (nI d))) z M)) (hd : d ≤ 9) : hz_Mt κ xX5_send 2 0 0 [.ref 45, .int (nI by_), .int to_, .int kd, .ref b, .int (nI at_), .int (nI t.length)] z M (fun r z2 M2 => some (.int (hz_b (sdR q d t.length))) = r ∧ z = z2 ∧ frS [(45, 53)] M M2 ∧ M2 45 = mlO nn now (if sdR q d t.length then gone else gone + 1) ll fr kn ∧ mlQ M2 (if sdR q d t.length then q ++ [(nI by_, to_, kd, now + nI d, t)] else q)) := by
  refine hz_ent (lo := [(0, .ref 45), (1, .int (nI by_)), (2, .int to_), (3, .int kd), (4, .ref b), (5, .int (nI at_)), (6, .int (nI (t.length)))]) (by decide) (Nat.le_of_ble_eq_true rfl) rfl ?_
  obtain ⟨hrw, f1, f2, f3, f4, g1, g2, g3, g4, hX⟩ := id hQ
  obtain ⟨hO1, hle1, hoff1, fx, gx, hfx, hgx, hrX⟩ := id hrw
  rw [msB_len] at hO1 hle1
  refine hz_aloadn (pc := 0) 0 (hz_dec kX5_send 0 rfl) rfl ?_
  refine hz_iloadn (pc := 1) 1 (hz_dec kX5_send 1 rfl) rfl ?_
  refine hz_iloadn (pc := 2) 2 (hz_dec kX5_send 2 rfl) rfl ?_
  refine hz_xV (pc := 3) (a := 45) (As := [.int (nI by_), .int to_]) (st := []) (hz_dec kX5_send 3 rfl) co_X5_45 im_X5_delayOf se_X5_delayOf rfl hO (by omega) (by omega) (hdl) rfl (by decide) ⟨Nat.le_refl _, Nat.le_refl _⟩ (Nat.le_of_ble_eq_true rfl) rfl ?_
  refine hz_istore (pc := 6) (i := 7) (lo2 := [(7, .int (nI d)), (0, .ref 45), (1, .int (nI by_)), (2, .int to_), (3, .int kd), (4, .ref b), (5, .int (nI at_)), (6, .int (nI (t.length)))]) (hz_dec kX5_send 4 rfl) (by decide) rfl ?_
  refine hz_aloadn (pc := 8) 1 (hz_dec kX5_send 5 rfl) rfl ?_
  refine hz_get (pc := 9) (hz_dec kX5_send 6 rfl) fo_X5_15 hO (by omega) (by omega) rfl ?_
  refine hz_get (pc := 12) (hz_dec kX5_send 7 rfl) fo_X5_49 hO1 (by omega) (by omega) rfl ?_
  refine hz_istore (pc := 15) (i := 8) (lo2 := [(8, .int (nI (q.length))), (7, .int (nI d)), (0, .ref 45), (1, .int (nI by_)), (2, .int to_), (3, .int kd), (4, .ref b), (5, .int (nI at_)), (6, .int (nI (t.length)))]) (hz_dec kX5_send 8 rfl) (by decide) rfl ?_
  refine hz_iload (pc := 17) 1 (hz_dec kX5_send 9 rfl) rfl ?_
  refine hz_z_eq (pc := 19) (tgt := 38) (hz_dec kX5_send 10 rfl) (by decide) (by omega) (fun h1 => ?_) (fun h1 => ?_)
  · skip
    have e9 : sdR q d t.length = false := decide_eq_false (fun q9 => q9.1 (by omega))
    refine hz_aloadn (pc := 38) 2 (hz_dec kX5_send 18 rfl) rfl ?_
    refine hz_dup (pc := 39) (hz_dec kX5_send 19 rfl) rfl ?_
    refine hz_get (pc := 40) (hz_dec kX5_send 20 rfl) fo_X5_56 hO (by omega) (by omega) rfl ?_
    refine hz_iconst (pc := 43) (v := nI 1) (hz_dec kX5_send 21 rfl) (by decide) ?_
    refine hz_iadd (pc := 44) (hz_dec kX5_send 22 rfl) ?_
    refine hz_puti (pc := 45) (hz_dec kX5_send 23 rfl) fo_X5_56 ft_X5_8 hO (by omega) (by omega) (Nat.le_of_ble_eq_true rfl) ?_
    refine hz_mem (pc := 48) (M2 := (va_up M 45 (.inr (5, [.ref 46, .ref 49, .ref 50, .ref 51, .ref 52, .int (nI nn), .ref 54, .int now, .int ((gone) + (nI (1))), .ref 53, .int (nI ll), .int fr, .int kn])))) rfl ?_
    refine hz_iconst (pc := 48) (v := nI 0) (hz_dec kX5_send 24 rfl) (by decide) ?_
    refine hz_zret (pc := 49) (hz_dec kX5_send 25 rfl) rfl rfl ⟨by rw [e9]; rfl, rfl, frS.up (by simp only [outS, and_true]; omega), by rw [e9, if_neg (by decide)]; exact va_up_self _ _ _, by rw [e9]; exact hQ.fr (fun x q1 q2 => va_up_ne _ _ (by omega))⟩
  · skip
    refine hz_aloadn (pc := 22) 2 (hz_dec kX5_send 11 rfl) rfl ?_
    refine hz_get (pc := 23) (hz_dec kX5_send 12 rfl) fo_X5_15 hO (by omega) (by omega) rfl ?_
    refine hz_aload (pc := 26) 6 (hz_dec kX5_send 13 rfl) rfl ?_
    refine hz_iload (pc := 28) 7 (hz_dec kX5_send 14 rfl) rfl ?_
    refine hz_iload (pc := 30) 8 (hz_dec kX5_send 15 rfl) rfl ?_
    by_cases c : q.length < 200 ∧ msO q q.length + t.length ≤ 40000
    · skip
      refine hz_callV (pc := 32) (a := 46) (As := [.ref b, .int (nI at_), .int (nI (t.length))]) (st := []) (hz_dec kX5_send 16 rfl) co_X5_52 im_X7_add se_X7_add rfl hO1 (by omega) (by omega) (c_rwAdd hrw (by decide) (by omega) (by decide) (by decide) hB hb8 hbz (by omega) ht hat (by omega) (by rw [msB_len]; exact c.1) (by rw [msB_len]; exact c.2)) rfl (by decide) ⟨Nat.le_refl _, Nat.le_refl _⟩ (Nat.le_of_ble_eq_true rfl) rfl (fun r9 z9 M1 hp9 => ?_)
      obtain ⟨rfl, rfl, hf1, hr1⟩ := hp9
      have k1 : M1 49 = .inl (0, 200, .inl f1) := (hf1.at1 (by omega)).trans g1
      have k2 : M1 50 = .inl (0, 200, .inl f2) := (hf1.at1 (by omega)).trans g2
      have k3 : M1 51 = .inl (0, 200, .inl f3) := (hf1.at1 (by omega)).trans g3
      have k4 : M1 52 = .inl (0, 200, .inl f4) := (hf1.at1 (by omega)).trans g4
      have hOb : M1 45 = mlO nn now gone ll fr kn := (hf1.at1 (by omega)).trans hO
      refine hz_z_ne (pc := 35) (tgt := 50) (hz_dec kX5_send 17 rfl) (by decide) (by omega) (fun h5 => ?_) (fun h5 => ?_)
      · skip
        have e9 : sdR q d t.length = true := decide_eq_true ⟨by omega, c.1, c.2⟩
        refine hz_aloadn (pc := 50) 2 (hz_dec kX5_send 26 rfl) rfl ?_
        refine hz_get (pc := 51) (hz_dec kX5_send 27 rfl) fo_X5_21 hOb (by omega) (by omega) rfl ?_
        refine hz_iload (pc := 54) 0 (hz_dec kX5_send 28 rfl) rfl ?_
        refine hz_iloadn (pc := 56) 3 (hz_dec kX5_send 29 rfl) rfl ?_
        refine hz_iast (pc := 57) (j := q.length) (hz_dec kX5_send 30 rfl) k1 (by omega) (by omega) rfl (by omega) (by decide) ?_
        refine hz_aloadn (pc := 58) 2 (hz_dec kX5_send 31 rfl) rfl ?_
        refine hz_get (pc := 59) (hz_dec kX5_send 32 rfl) fo_X5_25 (hz_mne hOb (by omega)) (by omega) (by omega) rfl ?_
        refine hz_iload (pc := 62) 0 (hz_dec kX5_send 33 rfl) rfl ?_
        refine hz_iloadn (pc := 64) 4 (hz_dec kX5_send 34 rfl) rfl ?_
        refine hz_iast (pc := 65) (j := q.length) (hz_dec kX5_send 35 rfl) (hz_mne k2 (by omega)) (by omega) (by omega) rfl (by omega) (by decide) ?_
        refine hz_aloadn (pc := 66) 2 (hz_dec kX5_send 36 rfl) rfl ?_
        refine hz_get (pc := 67) (hz_dec kX5_send 37 rfl) fo_X5_28 (hz_mne (hz_mne hOb (by omega)) (by omega)) (by omega) (by omega) rfl ?_
        refine hz_iload (pc := 70) 0 (hz_dec kX5_send 38 rfl) rfl ?_
        refine hz_iloadn (pc := 72) 5 (hz_dec kX5_send 39 rfl) rfl ?_
        refine hz_iast (pc := 73) (j := q.length) (hz_dec kX5_send 40 rfl) (hz_mne (hz_mne k3 (by omega)) (by omega)) (by omega) (by omega) rfl (by omega) (by decide) ?_
        refine hz_aloadn (pc := 74) 2 (hz_dec kX5_send 41 rfl) rfl ?_
        refine hz_get (pc := 75) (hz_dec kX5_send 42 rfl) fo_X5_31 (hz_mne (hz_mne (hz_mne hOb (by omega)) (by omega)) (by omega)) (by omega) (by omega) rfl ?_
        refine hz_iload (pc := 78) 0 (hz_dec kX5_send 43 rfl) rfl ?_
        refine hz_aloadn (pc := 80) 2 (hz_dec kX5_send 44 rfl) rfl ?_
        refine hz_get (pc := 81) (hz_dec kX5_send 45 rfl) fo_X5_59 (hz_mne (hz_mne (hz_mne hOb (by omega)) (by omega)) (by omega)) (by omega) (by omega) rfl ?_
        refine hz_iload (pc := 84) 1 (hz_dec kX5_send 46 rfl) rfl ?_
        refine hz_iadd (pc := 86) (hz_dec kX5_send 47 rfl) ?_
        refine hz_iast (pc := 87) (j := q.length) (hz_dec kX5_send 48 rfl) (hz_mne (hz_mne (hz_mne k4 (by omega)) (by omega)) (by omega)) (by omega) (by omega) rfl (by omega) (by decide) ?_
        refine hz_iconst (pc := 88) (v := nI 1) (hz_dec kX5_send 49 rfl) (by decide) ?_
        refine hz_zret (pc := 89) (hz_dec kX5_send 50 rfl) rfl rfl ⟨by rw [e9]; rfl, rfl, (frS.upr (frS.upr (frS.upr (frS.upr (hf1.mono (fun x hx => by simp only [outS, and_true] at hx ⊢; omega)) (by simp only [outS, and_true]; omega)) (by simp only [outS, and_true]; omega)) (by simp only [outS, and_true]; omega)) (by simp only [outS, and_true]; omega)), by rw [e9]; exact (hz_mne (hz_mne (hz_mne (hz_mne hOb (by omega)) (by omega)) (by omega)) (by omega)), ?_⟩
        rw [e9, if_pos rfl]
        refine ⟨by rw [msB_app]; exact hr1.fr (fun x q1 q2 => hz_mne (hz_mne (hz_mne (hz_mne rfl (by omega)) (by omega)) (by omega)) (by omega)), _, _, _, _, (hz_mne (hz_mne (hz_mne (va_up_self _ _ _) (by omega)) (by omega)) (by omega)), (hz_mne (hz_mne (va_up_self _ _ _) (by omega)) (by omega)), (hz_mne (va_up_self _ _ _) (by omega)), (va_up_self _ _ _), msX_app hX⟩
      · skip
        exact absurd h5 (by omega)
    · skip
      refine hz_xV (pc := 32) (a := 46) (As := [.ref b, .int (nI at_), .int (nI (t.length))]) (st := []) (hz_dec kX5_send 16 rfl) co_X5_52 im_X7_add se_X7_add rfl hO1 (by omega) (by omega) (c_rwAddF hrw (by decide) (by omega) (by decide) (by decide) hB hb8 hbz (by omega) ht hat (by omega) (by rw [msB_len]; rw [Decidable.not_and_iff_not_or_not] at c; rcases c with c | c; exact Or.inl (by omega); exact Or.inr (Nat.lt_of_not_le c))) rfl (by decide) ⟨Nat.le_refl _, Nat.le_refl _⟩ (Nat.le_of_ble_eq_true rfl) rfl ?_
      refine hz_z_ne (pc := 35) (tgt := 50) (hz_dec kX5_send 17 rfl) (by decide) (by omega) (fun h5 => ?_) (fun h5 => ?_)
      · skip
        exact absurd h5 (by omega)
      · skip
        have e9 : sdR q d t.length = false := decide_eq_false (fun q9 => c q9.2)
        refine hz_aloadn (pc := 38) 2 (hz_dec kX5_send 18 rfl) rfl ?_
        refine hz_dup (pc := 39) (hz_dec kX5_send 19 rfl) rfl ?_
        refine hz_get (pc := 40) (hz_dec kX5_send 20 rfl) fo_X5_56 hO (by omega) (by omega) rfl ?_
        refine hz_iconst (pc := 43) (v := nI 1) (hz_dec kX5_send 21 rfl) (by decide) ?_
        refine hz_iadd (pc := 44) (hz_dec kX5_send 22 rfl) ?_
        refine hz_puti (pc := 45) (hz_dec kX5_send 23 rfl) fo_X5_56 ft_X5_8 hO (by omega) (by omega) (Nat.le_of_ble_eq_true rfl) ?_
        refine hz_mem (pc := 48) (M2 := (va_up M 45 (.inr (5, [.ref 46, .ref 49, .ref 50, .ref 51, .ref 52, .int (nI nn), .ref 54, .int now, .int ((gone) + (nI (1))), .ref 53, .int (nI ll), .int fr, .int kn])))) rfl ?_
        refine hz_iconst (pc := 48) (v := nI 0) (hz_dec kX5_send 24 rfl) (by decide) ?_
        refine hz_zret (pc := 49) (hz_dec kX5_send 25 rfl) rfl rfl ⟨by rw [e9]; rfl, rfl, frS.up (by simp only [outS, and_true]; omega), by rw [e9, if_neg (by decide)]; exact va_up_self _ _ _, by rw [e9]; exact hQ.fr (fun x q1 q2 => va_up_ne _ _ (by omega))⟩
set_option maxHeartbeats 4000000 in
set_option maxRecDepth 100000 in
theorem c_fetch {κ : hz_C} {z : Nat} {M : hz_M} (hz : 63 ≤ z) {nn : Nat} {now gone : Int32} {ll : Nat} {fr kn : Int32} (hO : M 45 = mlO nn now gone ll fr kn) (hnn : nn ≤ 6) {q : List ms_M} (hQ : mlQ M q) {k0 : Nat} (hk0 : k0 < q.length) {f53 : Nat → Int32} (h53 : M 53 = .inl (1, 4000, .inl f53)) (hl4 : (msL q k0).2.2.2.2.length ≤ 4000) : hz_Mt κ xX5_fetch 3 0 0 [.ref 45, .int (nI k0)] z M (fun r z2 M2 => none = r ∧ z = z2 ∧ frS [(45, 54)] M M2 ∧ M2 45 = mlO nn now gone (msL q k0).2.2.2.2.length (msL q k0).1 (msL q k0).2.2.1 ∧ mlQ M2 (q.eraseIdx k0) ∧ ∃ g : Nat → Int32, M2 53 = .inl (1, 4000, .inl g) ∧ isA g 0 (msL q k0).2.2.2.2) := by
  refine hz_ent (lo := [(0, .ref 45), (1, .int (nI k0))]) (by decide) (Nat.le_of_ble_eq_true rfl) rfl ?_
  obtain ⟨hrw, f1, f2, f3, f4, g1, g2, g3, g4, hX⟩ := id hQ
  obtain ⟨hO1, hle1, hoff1, fx, gx, hfx, hgx, hrX⟩ := id hrw
  rw [msB_len] at hO1 hle1
  have hmA : isA fx (msO q k0) (msL q k0).2.2.2.2 := by have r := hrX.2 k0 (by rw [msB_len]; exact hk0); rw [rowL_ms] at r; exact r
  have hom := offL_mono (msB q) (msB q).length (k0 + 1) (by rw [msB_len]; exact hk0)
  have hos : offL (msB q) (k0 + 1) = msO q k0 + (msL q k0).2.2.2.2.length := by simp only [offL]; rw [rowL_ms]; rfl
  refine hz_iloadn (pc := 0) 1 (hz_dec kX5_fetch 0 rfl) rfl ?_
  refine hz_z_lt (pc := 1) (tgt := 15) (hz_dec kX5_fetch 1 rfl) (by decide) (by omega) ?_
  refine hz_iloadn (pc := 4) 1 (hz_dec kX5_fetch 2 rfl) rfl ?_
  refine hz_aloadn (pc := 5) 0 (hz_dec kX5_fetch 3 rfl) rfl ?_
  refine hz_get (pc := 6) (hz_dec kX5_fetch 4 rfl) fo_X5_15 hO (by omega) (by omega) rfl ?_
  refine hz_get (pc := 9) (hz_dec kX5_fetch 5 rfl) fo_X5_49 hO1 (by omega) (by omega) rfl ?_
  refine hz_n_lt (pc := 12) (tgt := 16) (hz_dec kX5_fetch 6 rfl) (by decide) (by omega) (by omega) (fun h1 => ?_) (fun h1 => ?_)
  · skip
    refine hz_aloadn (pc := 16) 0 (hz_dec kX5_fetch 8 rfl) rfl ?_
    refine hz_aloadn (pc := 17) 0 (hz_dec kX5_fetch 9 rfl) rfl ?_
    refine hz_get (pc := 18) (hz_dec kX5_fetch 10 rfl) fo_X5_15 hO (by omega) (by omega) rfl ?_
    refine hz_get (pc := 21) (hz_dec kX5_fetch 11 rfl) fo_X5_62 hO1 (by omega) (by omega) rfl ?_
    refine hz_aloadn (pc := 24) 0 (hz_dec kX5_fetch 12 rfl) rfl ?_
    refine hz_get (pc := 25) (hz_dec kX5_fetch 13 rfl) fo_X5_15 hO (by omega) (by omega) rfl ?_
    refine hz_get (pc := 28) (hz_dec kX5_fetch 14 rfl) fo_X5_65 hO1 (by omega) (by omega) rfl ?_
    refine hz_iloadn (pc := 31) 1 (hz_dec kX5_fetch 15 rfl) rfl ?_
    refine hz_iald (pc := 32) (j := k0) (hz_dec kX5_fetch 16 rfl) hgx (by omega) (by omega) rfl (by omega) (by decide) ?_
    refine hz_eqi (pc := 33) (hrX.1 (k0) (by rw [msB_len]; omega)) ?_
    refine hz_aloadn (pc := 33) 0 (hz_dec kX5_fetch 17 rfl) rfl ?_
    refine hz_get (pc := 34) (hz_dec kX5_fetch 18 rfl) fo_X5_15 hO (by omega) (by omega) rfl ?_
    refine hz_iloadn (pc := 37) 1 (hz_dec kX5_fetch 19 rfl) rfl ?_
    refine hz_xV (pc := 38) (a := 46) (As := [.int (nI k0)]) (st := [.int (nI (msO q (k0))), .ref (46 + 1), .ref 45]) (hz_dec kX5_fetch 20 rfl) co_X5_68 im_X7_lengthOf se_X7_lengthOf rfl hO1 (by omega) (by omega) (c_lenOf hrw (by decide) (by omega) (by decide) (by decide) (by rw [msB_len]; exact hk0)) rfl (by decide) ⟨Nat.le_refl _, Nat.le_refl _⟩ (Nat.le_of_ble_eq_true rfl) rfl ?_
    refine hz_eqi (pc := 41) (show _ = nI (msL q k0).2.2.2.2.length by rw [rowL_ms]) ?_
    refine hz_callV (pc := 41) (a := 45) (As := [.ref (46 + 1), .int (nI (msO q (k0))), .int (nI ((msL q k0).2.2.2.2.length))]) (st := []) (hz_dec kX5_fetch 21 rfl) co_X5_72 im_X5_hold se_X5_hold rfl hO (by omega) (by omega) (c_hold hz hO hnn hfx (by decide) (by omega) (by decide) (by decide) hmA (by omega) h53 hl4) rfl (by decide) ⟨Nat.le_refl _, Nat.le_refl _⟩ (Nat.le_of_ble_eq_true rfl) rfl (fun r9 z9 M1 hp9 => ?_)
    obtain ⟨rfl, rfl, hf1, hO2, g, hg, hgA⟩ := hp9
    have hQ1 : mlQ M1 q := hQ.fr (fun x q1 q2 => hf1.at2 (by omega))
    obtain ⟨hrw1, e1, e2, e3, e4, j1, j2, j3, j4, hX1⟩ := id hQ1
    refine hz_aloadn (pc := 44) 0 (hz_dec kX5_fetch 22 rfl) rfl ?_
    refine hz_aloadn (pc := 45) 0 (hz_dec kX5_fetch 23 rfl) rfl ?_
    refine hz_get (pc := 46) (hz_dec kX5_fetch 24 rfl) fo_X5_21 hO2 (by omega) (by omega) rfl ?_
    refine hz_iloadn (pc := 49) 1 (hz_dec kX5_fetch 25 rfl) rfl ?_
    refine hz_iald (pc := 50) (j := k0) (hz_dec kX5_fetch 26 rfl) j1 (by omega) (by omega) rfl (by omega) (by decide) ?_
    refine hz_eqi (pc := 51) (hX1 (k0) (by omega)).1 ?_
    refine hz_puti (pc := 51) (hz_dec kX5_fetch 27 rfl) fo_X5_76 ft_X5_11 hO2 (by omega) (by omega) (Nat.le_of_ble_eq_true rfl) ?_
    refine hz_mem (pc := 54) (M2 := (va_up M1 45 (.inr (5, [.ref 46, .ref 49, .ref 50, .ref 51, .ref 52, .int (nI nn), .ref 54, .int now, .int gone, .ref 53, .int (nI ((msL q k0).2.2.2.2.length)), .int ((msL q (k0)).1), .int kn])))) rfl ?_
    refine hz_aloadn (pc := 54) 0 (hz_dec kX5_fetch 28 rfl) rfl ?_
    refine hz_aloadn (pc := 55) 0 (hz_dec kX5_fetch 29 rfl) rfl ?_
    refine hz_get (pc := 56) (hz_dec kX5_fetch 30 rfl) fo_X5_28 (va_up_self _ _ _) (by omega) (by omega) rfl ?_
    refine hz_iloadn (pc := 59) 1 (hz_dec kX5_fetch 31 rfl) rfl ?_
    refine hz_iald (pc := 60) (j := k0) (hz_dec kX5_fetch 32 rfl) (hz_mne j3 (by omega)) (by omega) (by omega) rfl (by omega) (by decide) ?_
    refine hz_eqi (pc := 61) (hX1 (k0) (by omega)).2.2.1 ?_
    refine hz_puti (pc := 61) (hz_dec kX5_fetch 33 rfl) fo_X5_79 ft_X5_12 (va_up_self _ _ _) (by omega) (by omega) (Nat.le_of_ble_eq_true rfl) ?_
    refine hz_mem (pc := 64) (M2 := (va_up (va_up M1 45 (.inr (5, [.ref 46, .ref 49, .ref 50, .ref 51, .ref 52, .int (nI nn), .ref 54, .int now, .int gone, .ref 53, .int (nI ((msL q k0).2.2.2.2.length)), .int ((msL q (k0)).1), .int kn]))) 45 (.inr (5, [.ref 46, .ref 49, .ref 50, .ref 51, .ref 52, .int (nI nn), .ref 54, .int now, .int gone, .ref 53, .int (nI ((msL q k0).2.2.2.2.length)), .int ((msL q (k0)).1), .int ((msL q (k0)).2.2.1)])))) rfl ?_
    refine hz_mem (pc := 64) (M2 := (va_up M1 45 (.inr (5, [.ref 46, .ref 49, .ref 50, .ref 51, .ref 52, .int (nI nn), .ref 54, .int now, .int gone, .ref 53, .int (nI ((msL q k0).2.2.2.2.length)), .int ((msL q (k0)).1), .int ((msL q (k0)).2.2.1)])))) (bx_uu _ _ _ _) ?_
    refine hz_aloadn (pc := 64) 0 (hz_dec kX5_fetch 34 rfl) rfl ?_
    refine hz_iloadn (pc := 65) 1 (hz_dec kX5_fetch 35 rfl) rfl ?_
    have hQ2 : mlQ (va_up M1 45 (.inr (5, [.ref 46, .ref 49, .ref 50, .ref 51, .ref 52, .int (nI nn), .ref 54, .int now, .int gone, .ref 53, .int (nI ((msL q k0).2.2.2.2.length)), .int ((msL q (k0)).1), .int ((msL q (k0)).2.2.1)]))) q := hQ1.fr (fun x q1 q2 => va_up_ne _ _ (by omega))
    refine hz_callV (pc := 66) (a := 45) (As := [.int (nI k0)]) (st := []) (hz_dec kX5_fetch 36 rfl) co_X5_82 im_X5_remove se_X5_remove rfl (va_up_self _ _ _) (by omega) (by omega) (c_mrem hz (va_up_self _ _ _) hnn hQ2 hk0) rfl (by decide) ⟨Nat.le_refl _, Nat.le_refl _⟩ (Nat.le_of_ble_eq_true rfl) rfl (fun r9 z9 M3 hp9 => ?_)
    obtain ⟨rfl, rfl, hf3, hQ3⟩ := hp9
    refine hz_vret (pc := 69) (hz_dec kX5_fetch 37 rfl) rfl ⟨rfl, rfl, ?_, (hf3.at1 (by omega)).trans (va_up_self _ _ _), hQ3, g, (hf3.at1 (by omega)).trans (hz_mne hg (by decide)), hgA⟩
    intro x hx
    simp only [outS, and_true] at hx
    exact (hf3.at1 (by omega)).trans ((va_up_ne _ _ (by omega)).trans (hf1.at2 (by omega)))
  · skip
    exact absurd hk0 (by omega)
