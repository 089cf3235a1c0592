/-! Tree.add of the FIRST block -/
def trZ (M : hz_M) (t : Nat) : Prop := M t = trO t 0 ∧ rwR M (t + 1) 12391 113 [] ∧ M (t + 4) = .inl (1, 3616, .inl (fun _ => 0)) ∧ M (t + 5) = .inl (0, 129, .inl (fun _ => 0)) ∧ M (t + 6) = .inl (0, 129, .inl (fun _ => 0)) ∧ M (t + 7) = .inl (0, 129, .inl (fun _ => 0)) ∧ M (t + 8) = .inl (0, 129, .inl (fun _ => 0)) ∧ M (t + 9) = .inl (0, 904, .inl (fun _ => 0)) ∧ M (t + 10) = .inl (2, 904, .inr (.inl (fun _ => 0))) ∧ M (t + 11) = .inl (0, 113, .inl (fun _ => 0)) ∧ M (t + 12) = .inl (0, 11, .inl (fun _ => 0))
set_option maxHeartbeats 4000000 in
set_option maxRecDepth 100000 in
theorem c_trAdd0 {κ : hz_C} {z : Nat} {M : hz_M} {t : Nat} (h : trZ M t) (ht8 : 63 ≤ t) (htz : t + 13 ≤ z) (hw : ck_w M) {b n : Nat} {f fhJ : Nat → Int32} {fi : Nat → Int64} {l : by_L} (hB : M b = .inl (1, n, .inl f)) (hb8 : 39 ≤ b) (hbz : b < z) (hbo : b < t ∨ t + 13 ≤ b) (hn : n < 2 ^ 24) (hA : isA f 0 l) (hln : l.length ≤ n) (hWl : blW l) (hR : tgR (bn_int (lf l) 68) = true) (h37 : M 37 = .inl (1, 32, .inl fhJ)) (hH : isA fhJ 0 (haS l)) (h38 : M 38 = .inl (2, 8, .inr (.inl fi))) (hfi9 : ∀ j, j < bkN l → fi j = idS (bkT l j)) (hto : 0 + wkN (bn_int (lf l) 68) < 4294967296 ^ 8) : hz_Mt κ xX10_add 3 0 0 [.ref t, .ref b, .int (nI l.length), .ref 37, .ref 38, .int (-1)] z M (fun r z2 M2 => none = r ∧ z = z2 ∧ frS [(t, t + 13), (20, 25)] M M2 ∧ ck_w M2 ∧ trR M2 t [fiB l] 0 (enB [fiB l])) := by
  refine hz_ent (lo := [(0, .ref t), (1, .ref b), (2, .int (nI (l.length))), (3, .ref 37), (4, .ref 38), (5, .int (-1))]) (by decide) (Nat.le_of_ble_eq_true rfl) rfl ?_
  obtain ⟨hT, hrw, k4, k5, k6, k7, k8, k9, k10, k11, k12⟩ := id h
  have hO1 : M (t + 1) = .inr (7, [.ref (t + 1 + 1), .ref (t + 1 + 2), .int (nI 0)]) := hrw.1
  obtain ⟨hbf1, hbf2, hbf3, hbf4, hbf5, hbf6, hbf7⟩ := hWl.f
  have hln9 := hWl.len
  refine hz_aloadn (pc := 0) 0 (hz_dec kX10_add 0 rfl) rfl ?_
  refine hz_get (pc := 1) (hz_dec kX10_add 1 rfl) fo_X10_14 hT (by omega) (by omega) rfl ?_
  refine hz_get (pc := 4) (hz_dec kX10_add 2 rfl) fo_X10_54 hO1 (by omega) (by omega) rfl ?_
  refine hz_istore (pc := 7) (i := 6) (lo2 := [(6, .int (nI 0)), (0, .ref t), (1, .ref b), (2, .int (nI (l.length))), (3, .ref 37), (4, .ref 38), (5, .int (-1))]) (hz_dec kX10_add 3 rfl) (by decide) rfl ?_
  refine hz_iload (pc := 9) 6 (hz_dec kX10_add 4 rfl) rfl ?_
  refine hz_iload (pc := 11) 0 (hz_dec kX10_add 5 rfl) rfl ?_
  refine hz_icmp_ge (pc := 13) (tgt := 37) (hz_dec kX10_add 6 rfl) (by decide) (fun h0 => ?_) (fun h0 => ?_)
  · skip
    exact absurd h0 (by decide)
  · skip
    refine hz_aload (pc := 16) 5 (hz_dec kX10_add 7 rfl) rfl ?_
    refine hz_alen (pc := 18) (hz_dec kX10_add 8 rfl) h38 (by decide) (by decide) (by omega) ?_
    refine hz_bipush (pc := 19) (v := nI 8) (hz_dec kX10_add 9 rfl) (by decide) ?_
    refine hz_n_lt (pc := 21) (tgt := 37) (hz_dec kX10_add 10 rfl) (by decide) (by omega) (by omega) (fun h2 => ?_) (fun h2 => ?_)
    · skip
      exact absurd h2 (by omega)
    · skip
      refine hz_aloadn (pc := 24) 1 (hz_dec kX10_add 11 rfl) rfl ?_
      refine hz_get (pc := 25) (hz_dec kX10_add 12 rfl) fo_X10_14 hT (by omega) (by omega) rfl ?_
      refine hz_aloadn (pc := 28) 2 (hz_dec kX10_add 13 rfl) rfl ?_
      refine hz_iconst (pc := 29) (v := nI 0) (hz_dec kX10_add 14 rfl) (by decide) ?_
      refine hz_iloadn (pc := 30) 3 (hz_dec kX10_add 15 rfl) rfl ?_
      refine hz_callV (pc := 31) (a := t + 1) (As := [.ref b, .int (nI 0), .int (nI (l.length))]) (st := []) (hz_dec kX10_add 16 rfl) co_X10_73 im_X7_add se_X7_add rfl hO1 (by omega) (by omega) (c_rwAdd hrw (by omega) (by omega) (by decide) (by decide) hB (by omega) hbz (by omega) hA (by omega) (by omega) (by decide) (by show 0 + l.length ≤ 12391; omega)) rfl (by decide) ⟨Nat.le_refl _, Nat.le_refl _⟩ (Nat.le_of_ble_eq_true rfl) rfl (fun r9 z9 M1 hp9 => ?_)
      obtain ⟨rfl, rfl, hq1, hr1⟩ := hp9
      have eq1 : ∀ q, q < t + 1 ∨ t + 4 ≤ q → M1 q = M q := fun q hq => hq1.at1 (by omega)
      have hT1 := (eq1 t (by omega)).trans hT
      have k41 := (eq1 (t + 4) (by omega)).trans k4
      have k51 := (eq1 (t + 5) (by omega)).trans k5
      have k61 := (eq1 (t + 6) (by omega)).trans k6
      have k71 := (eq1 (t + 7) (by omega)).trans k7
      have k81 := (eq1 (t + 8) (by omega)).trans k8
      have k91 := (eq1 (t + 9) (by omega)).trans k9
      have k101 := (eq1 (t + 10) (by omega)).trans k10
      have k111 := (eq1 (t + 11) (by omega)).trans k11
      have k121 := (eq1 (t + 12) (by omega)).trans k12
      have h371 := (eq1 37 (by omega)).trans h37
      have h381 := (eq1 38 (by omega)).trans h38
      have hB1 := (eq1 b (by omega)).trans hB
      refine hz_z_ne (pc := 34) (tgt := 38) (hz_dec kX10_add 17 rfl) (by decide) (by omega) (fun h5 => ?_) (fun h5 => ?_)
      · skip
        refine hz_aloadn (pc := 38) 4 (hz_dec kX10_add 19 rfl) rfl ?_
        refine hz_iconst (pc := 39) (v := nI 0) (hz_dec kX10_add 20 rfl) (by decide) ?_
        refine hz_aloadn (pc := 40) 1 (hz_dec kX10_add 21 rfl) rfl ?_
        refine hz_get (pc := 41) (hz_dec kX10_add 22 rfl) fo_X10_20 hT1 (by omega) (by omega) rfl ?_
        refine hz_bipush (pc := 44) (v := nI 32) (hz_dec kX10_add 23 rfl) (by decide) ?_
        refine hz_iload (pc := 46) 0 (hz_dec kX10_add 24 rfl) rfl ?_
        refine hz_mulN (pc := 48) (hz_dec kX10_add 25 rfl) ?_
        refine hz_bipush (pc := 49) (v := nI 32) (hz_dec kX10_add 26 rfl) (by decide) ?_
        refine hz_xS (pc := 51) (As := [.ref 37, .int (nI 0), .ref (t + 4), .int (nI (32 * 0)), .int (nI 32)]) (st := []) (hz_dec kX10_add 27 rfl) co_X10_77 sc_X0_copy (c_copy h371 (by decide) (by omega) (by decide) k41 (by omega) (by omega) (by decide) (by omega) (by omega)) rfl (by decide) ⟨Nat.le_refl _, Nat.le_refl _⟩ (Nat.le_of_ble_eq_true rfl) rfl ?_
        refine hz_aload (pc := 54) 5 (hz_dec kX10_add 28 rfl) rfl ?_
        refine hz_iconst (pc := 56) (v := nI 0) (hz_dec kX10_add 29 rfl) (by decide) ?_
        refine hz_aloadn (pc := 57) 1 (hz_dec kX10_add 30 rfl) rfl ?_
        refine hz_get (pc := 58) (hz_dec kX10_add 31 rfl) fo_X10_40 (hz_mne hT1 (by omega)) (by omega) (by omega) rfl ?_
        refine hz_bipush (pc := 61) (v := nI 8) (hz_dec kX10_add 32 rfl) (by decide) ?_
        refine hz_iload (pc := 63) 0 (hz_dec kX10_add 33 rfl) rfl ?_
        refine hz_mulN (pc := 65) (hz_dec kX10_add 34 rfl) ?_
        refine hz_bipush (pc := 66) (v := nI 8) (hz_dec kX10_add 35 rfl) (by decide) ?_
        refine hz_copyL (pc := 68) (hz_dec kX10_add 36 rfl) ac_X10_81 (hz_mne h381 (by omega)) (by decide) (by omega) (hz_mne k101 (by omega)) (by omega) (by omega) (by omega) (by omega) (by decide) (by decide) (by decide) (by decide) ?_
        refine hz_aloadn (pc := 71) 1 (hz_dec kX10_add 37 rfl) rfl ?_
        refine hz_iload (pc := 72) 0 (hz_dec kX10_add 38 rfl) rfl ?_
        refine hz_iload (pc := 74) 6 (hz_dec kX10_add 39 rfl) rfl ?_
        refine hz_aloadn (pc := 76) 2 (hz_dec kX10_add 40 rfl) rfl ?_
        refine hz_iconst (pc := 77) (v := nI 0) (hz_dec kX10_add 41 rfl) (by decide) ?_
        refine hz_xV (pc := 78) (a := t) (As := [.int (nI 0), .int (-1), .ref b, .int (nI 0)]) (st := []) (hz_dec kX10_add 42 rfl) co_X10_87 im_X10_note se_X10_note rfl (hz_mne (hz_mne hT1 (by omega)) (by omega)) (by omega) (by omega) (c_note0 (hz_mne (hz_mne hT1 (by omega)) (by omega)) ht8 htz (hz_mne (hz_mne k51 (by omega)) (by omega)) (hz_mne (hz_mne k61 (by omega)) (by omega)) (hz_mne (hz_mne k71 (by omega)) (by omega)) (hz_mne (hz_mne k81 (by omega)) (by omega)) (hz_mne (hz_mne hB1 (by omega)) (by omega)) (by omega) hbz hbo hn (by omega) (by decide)) rfl (by decide) ⟨Nat.le_refl _, Nat.le_refl _⟩ (Nat.le_of_ble_eq_true rfl) rfl ?_
        have e64 : bn_int f (0 + 64) = bn_int (lf l) 64 := int_of hA (by omega)
        have e68 : bn_int f (0 + 68) = bn_int (lf l) 68 := int_of hA (by omega)
        rw [e64, e68]
        refine hz_aloadn (pc := 81) 1 (hz_dec kX10_add 43 rfl) rfl ?_
        refine hz_get (pc := 82) (hz_dec kX10_add 44 rfl) fo_X10_50 (hz_mne (hz_mne (hz_mne (hz_mne (hz_mne (hz_mne hT1 (by omega)) (by omega)) (by omega)) (by omega)) (by omega)) (by omega)) (by omega) (by omega) rfl ?_
        refine hz_aloadn (pc := 85) 1 (hz_dec kX10_add 45 rfl) rfl ?_
        refine hz_get (pc := 86) (hz_dec kX10_add 46 rfl) fo_X10_34 (hz_mne (hz_mne (hz_mne (hz_mne (hz_mne (hz_mne hT1 (by omega)) (by omega)) (by omega)) (by omega)) (by omega)) (by omega)) (by omega) (by omega) rfl ?_
        refine hz_iload (pc := 89) 0 (hz_dec kX10_add 47 rfl) rfl ?_
        refine hz_iald (pc := 91) (j := 0) (hz_dec kX10_add 48 rfl) (va_up_self _ _ _) (by omega) (by omega) rfl (by omega) (by decide) ?_
        refine hz_eqi (pc := 92) (show _ = bn_int (lf l) 68 from if_pos rfl) ?_
        have m0 : (va_up (va_up (va_up (va_up (va_up (va_up M1 (t + 4) (.inl (1, 3616, .inl (va_cpy fhJ (fun _ => 0) 0 (32 * 0) 32)))) (t + 10) (.inl (2, 904, .inr (.inl (va_cpy fi (fun _ => 0) 0 (8 * 0) 8))))) (t + 5) (.inl (0, 129, .inl (upd (fun _ => 0) 0 (-1))))) (t + 6) (.inl (0, 129, .inl (upd (fun _ => 0) 0 (nI 0))))) (t + 7) (.inl (0, 129, .inl (upd (fun _ => 0) 0 (bn_int (lf l) 64))))) (t + 8) (.inl (0, 129, .inl (upd (fun _ => 0) 0 (bn_int (lf l) 68))))) (t) = .inr (10, [.ref (t + 1), .ref (t + 4), .ref (t + 5), .ref (t + 6), .ref (t + 7), .ref (t + 8), .ref (t + 9), .ref (t + 10), .int (nI 0), .ref (t + 11), .ref (t + 12), .ref 20]) := (hz_mne (hz_mne (hz_mne (hz_mne (hz_mne (hz_mne hT1 (by omega)) (by omega)) (by omega)) (by omega)) (by omega)) (by omega))
        have m4 : (va_up (va_up (va_up (va_up (va_up (va_up M1 (t + 4) (.inl (1, 3616, .inl (va_cpy fhJ (fun _ => 0) 0 (32 * 0) 32)))) (t + 10) (.inl (2, 904, .inr (.inl (va_cpy fi (fun _ => 0) 0 (8 * 0) 8))))) (t + 5) (.inl (0, 129, .inl (upd (fun _ => 0) 0 (-1))))) (t + 6) (.inl (0, 129, .inl (upd (fun _ => 0) 0 (nI 0))))) (t + 7) (.inl (0, 129, .inl (upd (fun _ => 0) 0 (bn_int (lf l) 64))))) (t + 8) (.inl (0, 129, .inl (upd (fun _ => 0) 0 (bn_int (lf l) 68))))) (t + 4) = .inl (1, 3616, .inl (va_cpy fhJ (fun _ => 0) 0 (32 * 0) 32)) := (hz_mne (hz_mne (hz_mne (hz_mne (hz_mne (va_up_self _ _ _) (by omega)) (by omega)) (by omega)) (by omega)) (by omega))
        have m5 : (va_up (va_up (va_up (va_up (va_up (va_up M1 (t + 4) (.inl (1, 3616, .inl (va_cpy fhJ (fun _ => 0) 0 (32 * 0) 32)))) (t + 10) (.inl (2, 904, .inr (.inl (va_cpy fi (fun _ => 0) 0 (8 * 0) 8))))) (t + 5) (.inl (0, 129, .inl (upd (fun _ => 0) 0 (-1))))) (t + 6) (.inl (0, 129, .inl (upd (fun _ => 0) 0 (nI 0))))) (t + 7) (.inl (0, 129, .inl (upd (fun _ => 0) 0 (bn_int (lf l) 64))))) (t + 8) (.inl (0, 129, .inl (upd (fun _ => 0) 0 (bn_int (lf l) 68))))) (t + 5) = .inl (0, 129, .inl (upd (fun _ => 0) 0 (-1))) := (hz_mne (hz_mne (hz_mne (va_up_self _ _ _) (by omega)) (by omega)) (by omega))
        have m6 : (va_up (va_up (va_up (va_up (va_up (va_up M1 (t + 4) (.inl (1, 3616, .inl (va_cpy fhJ (fun _ => 0) 0 (32 * 0) 32)))) (t + 10) (.inl (2, 904, .inr (.inl (va_cpy fi (fun _ => 0) 0 (8 * 0) 8))))) (t + 5) (.inl (0, 129, .inl (upd (fun _ => 0) 0 (-1))))) (t + 6) (.inl (0, 129, .inl (upd (fun _ => 0) 0 (nI 0))))) (t + 7) (.inl (0, 129, .inl (upd (fun _ => 0) 0 (bn_int (lf l) 64))))) (t + 8) (.inl (0, 129, .inl (upd (fun _ => 0) 0 (bn_int (lf l) 68))))) (t + 6) = .inl (0, 129, .inl (upd (fun _ => 0) 0 (nI 0))) := (hz_mne (hz_mne (va_up_self _ _ _) (by omega)) (by omega))
        have m7 : (va_up (va_up (va_up (va_up (va_up (va_up M1 (t + 4) (.inl (1, 3616, .inl (va_cpy fhJ (fun _ => 0) 0 (32 * 0) 32)))) (t + 10) (.inl (2, 904, .inr (.inl (va_cpy fi (fun _ => 0) 0 (8 * 0) 8))))) (t + 5) (.inl (0, 129, .inl (upd (fun _ => 0) 0 (-1))))) (t + 6) (.inl (0, 129, .inl (upd (fun _ => 0) 0 (nI 0))))) (t + 7) (.inl (0, 129, .inl (upd (fun _ => 0) 0 (bn_int (lf l) 64))))) (t + 8) (.inl (0, 129, .inl (upd (fun _ => 0) 0 (bn_int (lf l) 68))))) (t + 7) = .inl (0, 129, .inl (upd (fun _ => 0) 0 (bn_int (lf l) 64))) := (hz_mne (va_up_self _ _ _) (by omega))
        have m8 : (va_up (va_up (va_up (va_up (va_up (va_up M1 (t + 4) (.inl (1, 3616, .inl (va_cpy fhJ (fun _ => 0) 0 (32 * 0) 32)))) (t + 10) (.inl (2, 904, .inr (.inl (va_cpy fi (fun _ => 0) 0 (8 * 0) 8))))) (t + 5) (.inl (0, 129, .inl (upd (fun _ => 0) 0 (-1))))) (t + 6) (.inl (0, 129, .inl (upd (fun _ => 0) 0 (nI 0))))) (t + 7) (.inl (0, 129, .inl (upd (fun _ => 0) 0 (bn_int (lf l) 64))))) (t + 8) (.inl (0, 129, .inl (upd (fun _ => 0) 0 (bn_int (lf l) 68))))) (t + 8) = .inl (0, 129, .inl (upd (fun _ => 0) 0 (bn_int (lf l) 68))) := (va_up_self _ _ _)
        have m9 : (va_up (va_up (va_up (va_up (va_up (va_up M1 (t + 4) (.inl (1, 3616, .inl (va_cpy fhJ (fun _ => 0) 0 (32 * 0) 32)))) (t + 10) (.inl (2, 904, .inr (.inl (va_cpy fi (fun _ => 0) 0 (8 * 0) 8))))) (t + 5) (.inl (0, 129, .inl (upd (fun _ => 0) 0 (-1))))) (t + 6) (.inl (0, 129, .inl (upd (fun _ => 0) 0 (nI 0))))) (t + 7) (.inl (0, 129, .inl (upd (fun _ => 0) 0 (bn_int (lf l) 64))))) (t + 8) (.inl (0, 129, .inl (upd (fun _ => 0) 0 (bn_int (lf l) 68))))) (t + 9) = .inl (0, 904, .inl (fun _ => 0)) := (hz_mne (hz_mne (hz_mne (hz_mne (hz_mne (hz_mne k91 (by omega)) (by omega)) (by omega)) (by omega)) (by omega)) (by omega))
        have m10 : (va_up (va_up (va_up (va_up (va_up (va_up M1 (t + 4) (.inl (1, 3616, .inl (va_cpy fhJ (fun _ => 0) 0 (32 * 0) 32)))) (t + 10) (.inl (2, 904, .inr (.inl (va_cpy fi (fun _ => 0) 0 (8 * 0) 8))))) (t + 5) (.inl (0, 129, .inl (upd (fun _ => 0) 0 (-1))))) (t + 6) (.inl (0, 129, .inl (upd (fun _ => 0) 0 (nI 0))))) (t + 7) (.inl (0, 129, .inl (upd (fun _ => 0) 0 (bn_int (lf l) 64))))) (t + 8) (.inl (0, 129, .inl (upd (fun _ => 0) 0 (bn_int (lf l) 68))))) (t + 10) = .inl (2, 904, .inr (.inl (va_cpy fi (fun _ => 0) 0 (8 * 0) 8))) := (hz_mne (hz_mne (hz_mne (hz_mne (va_up_self _ _ _) (by omega)) (by omega)) (by omega)) (by omega))
        have m11 : (va_up (va_up (va_up (va_up (va_up (va_up M1 (t + 4) (.inl (1, 3616, .inl (va_cpy fhJ (fun _ => 0) 0 (32 * 0) 32)))) (t + 10) (.inl (2, 904, .inr (.inl (va_cpy fi (fun _ => 0) 0 (8 * 0) 8))))) (t + 5) (.inl (0, 129, .inl (upd (fun _ => 0) 0 (-1))))) (t + 6) (.inl (0, 129, .inl (upd (fun _ => 0) 0 (nI 0))))) (t + 7) (.inl (0, 129, .inl (upd (fun _ => 0) 0 (bn_int (lf l) 64))))) (t + 8) (.inl (0, 129, .inl (upd (fun _ => 0) 0 (bn_int (lf l) 68))))) (t + 11) = .inl (0, 113, .inl (fun _ => 0)) := (hz_mne (hz_mne (hz_mne (hz_mne (hz_mne (hz_mne k111 (by omega)) (by omega)) (by omega)) (by omega)) (by omega)) (by omega))
        have m12 : (va_up (va_up (va_up (va_up (va_up (va_up M1 (t + 4) (.inl (1, 3616, .inl (va_cpy fhJ (fun _ => 0) 0 (32 * 0) 32)))) (t + 10) (.inl (2, 904, .inr (.inl (va_cpy fi (fun _ => 0) 0 (8 * 0) 8))))) (t + 5) (.inl (0, 129, .inl (upd (fun _ => 0) 0 (-1))))) (t + 6) (.inl (0, 129, .inl (upd (fun _ => 0) 0 (nI 0))))) (t + 7) (.inl (0, 129, .inl (upd (fun _ => 0) 0 (bn_int (lf l) 64))))) (t + 8) (.inl (0, 129, .inl (upd (fun _ => 0) 0 (bn_int (lf l) 68))))) (t + 12) = .inl (0, 11, .inl (fun _ => 0)) := (hz_mne (hz_mne (hz_mne (hz_mne (hz_mne (hz_mne k121 (by omega)) (by omega)) (by omega)) (by omega)) (by omega)) (by omega))
        have eq2 : ∀ q, q < t ∨ t + 13 ≤ q → (va_up (va_up (va_up (va_up (va_up (va_up M1 (t + 4) (.inl (1, 3616, .inl (va_cpy fhJ (fun _ => 0) 0 (32 * 0) 32)))) (t + 10) (.inl (2, 904, .inr (.inl (va_cpy fi (fun _ => 0) 0 (8 * 0) 8))))) (t + 5) (.inl (0, 129, .inl (upd (fun _ => 0) 0 (-1))))) (t + 6) (.inl (0, 129, .inl (upd (fun _ => 0) 0 (nI 0))))) (t + 7) (.inl (0, 129, .inl (upd (fun _ => 0) 0 (bn_int (lf l) 64))))) (t + 8) (.inl (0, 129, .inl (upd (fun _ => 0) 0 (bn_int (lf l) 68))))) q = M q := fun q hq => (hz_mne (hz_mne (hz_mne (hz_mne (hz_mne (hz_mne (eq1 q (by omega)) (by omega)) (by omega)) (by omega)) (by omega)) (by omega)) (by omega))
        have hr2 : rwR (va_up (va_up (va_up (va_up (va_up (va_up M1 (t + 4) (.inl (1, 3616, .inl (va_cpy fhJ (fun _ => 0) 0 (32 * 0) 32)))) (t + 10) (.inl (2, 904, .inr (.inl (va_cpy fi (fun _ => 0) 0 (8 * 0) 8))))) (t + 5) (.inl (0, 129, .inl (upd (fun _ => 0) 0 (-1))))) (t + 6) (.inl (0, 129, .inl (upd (fun _ => 0) 0 (nI 0))))) (t + 7) (.inl (0, 129, .inl (upd (fun _ => 0) 0 (bn_int (lf l) 64))))) (t + 8) (.inl (0, 129, .inl (upd (fun _ => 0) 0 (bn_int (lf l) 68))))) (t + 1) 12391 113 [l] := hr1.fr (fun q q1 q2 => (hz_mne (hz_mne (hz_mne (hz_mne (hz_mne (hz_mne rfl (by omega)) (by omega)) (by omega)) (by omega)) (by omega)) (by omega)))
        have hw2 : ck_w (va_up (va_up (va_up (va_up (va_up (va_up M1 (t + 4) (.inl (1, 3616, .inl (va_cpy fhJ (fun _ => 0) 0 (32 * 0) 32)))) (t + 10) (.inl (2, 904, .inr (.inl (va_cpy fi (fun _ => 0) 0 (8 * 0) 8))))) (t + 5) (.inl (0, 129, .inl (upd (fun _ => 0) 0 (-1))))) (t + 6) (.inl (0, 129, .inl (upd (fun _ => 0) 0 (nI 0))))) (t + 7) (.inl (0, 129, .inl (upd (fun _ => 0) 0 (bn_int (lf l) 64))))) (t + 8) (.inl (0, 129, .inl (upd (fun _ => 0) 0 (bn_int (lf l) 68))))) := hw.fs (fun q q1 q2 => eq2 q (by omega))
        generalize hM2 : (va_up (va_up (va_up (va_up (va_up (va_up M1 (t + 4) (.inl (1, 3616, .inl (va_cpy fhJ (fun _ => 0) 0 (32 * 0) 32)))) (t + 10) (.inl (2, 904, .inr (.inl (va_cpy fi (fun _ => 0) 0 (8 * 0) 8))))) (t + 5) (.inl (0, 129, .inl (upd (fun _ => 0) 0 (-1))))) (t + 6) (.inl (0, 129, .inl (upd (fun _ => 0) 0 (nI 0))))) (t + 7) (.inl (0, 129, .inl (upd (fun _ => 0) 0 (bn_int (lf l) 64))))) (t + 8) (.inl (0, 129, .inl (upd (fun _ => 0) 0 (bn_int (lf l) 68))))) = M2 at *
        obtain ⟨wb0, h200, -⟩ := id hw2
        refine hz_callV (pc := 92) (a := 20) (As := [.int (bn_int (lf l) 68)]) (st := []) (hz_dec kX10_add 49 rfl) co_X10_91 im_X9_makeWork se_X9_makeWork rfl h200 (by decide) (by omega) (c_makeWork hw2 (by omega) hR) rfl (by decide) ⟨Nat.le_refl _, Nat.le_refl _⟩ (Nat.le_of_ble_eq_true rfl) rfl (fun r9 z9 M3 hp9 => ?_)
        obtain ⟨rfl, rfl, hf3, hw3, fw, h24, hwk⟩ := hp9
        have eq3 : ∀ q, q < 20 ∨ 25 ≤ q → M3 q = M2 q := fun q hq => hf3 q (fun o9 ho9 => by simp only [List.mem_cons, List.not_mem_nil, or_false] at ho9; omega)
        have n0 := (eq3 (t) (by omega)).trans m0
        have n4 := (eq3 (t + 4) (by omega)).trans m4
        have n5 := (eq3 (t + 5) (by omega)).trans m5
        have n6 := (eq3 (t + 6) (by omega)).trans m6
        have n7 := (eq3 (t + 7) (by omega)).trans m7
        have n8 := (eq3 (t + 8) (by omega)).trans m8
        have n9 := (eq3 (t + 9) (by omega)).trans m9
        have n10 := (eq3 (t + 10) (by omega)).trans m10
        have n11 := (eq3 (t + 11) (by omega)).trans m11
        have n12 := (eq3 (t + 12) (by omega)).trans m12
        have hr3 : rwR M3 (t + 1) 12391 113 [l] := hr2.fr (fun q q1 q2 => eq3 q (by omega))
        obtain ⟨wb, h20, -⟩ := id hw3
        refine hz_lconst (pc := 95) (v := lN 0) (hz_dec kX10_add 50 rfl) (by decide) ?_
        refine hz_lstore (pc := 96) (i := 7) (lo2 := [(7, .long (lN 0)), (6, .int (nI 0)), (0, .ref t), (1, .ref b), (2, .int (nI (l.length))), (3, .ref 37), (4, .ref 38), (5, .int (-1))]) (hz_dec kX10_add 51 rfl) (by decide) rfl ?_
        refine hz_bipush (pc := 98) (v := nI 7) (hz_dec kX10_add 52 rfl) (by decide) ?_
        refine hz_istore (pc := 100) (i := 9) (lo2 := [(9, .int (nI 7)), (7, .long (lN 0)), (6, .int (nI 0)), (0, .ref t), (1, .ref b), (2, .int (nI (l.length))), (3, .ref 37), (4, .ref 38), (5, .int (-1))]) (hz_dec kX10_add 53 rfl) (by decide) rfl ?_
        refine hz_pick (pc := 102) [0, 1, 2, 8, 3] rfl ?_
        refine hz_mem (pc := 102) (hz_upid n9).symm ?_
        refine c_add_s0 (k := 0) n0 ht8 htz h20 h24 n9 (by decide) (fun g C hgl hgs => ?_) 8 (fun _ => 0) 0 (Nat.le_refl _) (by decide) (fun x _ => rfl) rfl
        have eq4 : ∀ q, ¬ q = t + 9 → (va_up M3 (t + 9) (.inl (0, 904, .inl g))) q = M3 q := fun q hq => va_up_ne _ _ hq
        have hgn : bg g (8 * 0) 8 = 0 + wkN (bn_int (lf l) 68) := by
          have q := bg_lt g (8 * 0) 8
          rw [hwk, show yB none (fun _ => 0) 0 8 = 0 from rfl] at hgs
          unfold wkN at hto ⊢
          generalize (4294967296 : Nat) ^ 8 = W at *
          generalize 2 ^ 256 / (tgT (bn_int (lf l) 68) + 1) = Z at *
          rcases Nat.eq_zero_or_pos C with c0 | c0
          · rw [c0, Nat.zero_mul] at hgs; omega
          · have r := Nat.le_mul_of_pos_left W c0; omega
        refine hz_aloadn (pc := 184) 1 (hz_dec kX10_add 99 rfl) rfl ?_
        refine hz_get (pc := 185) (hz_dec kX10_add 100 rfl) fo_X10_37 (hz_mne n0 (by omega)) (by omega) (by omega) rfl ?_
        refine hz_bipush (pc := 188) (v := nI 8) (hz_dec kX10_add 101 rfl) (by decide) ?_
        refine hz_iload (pc := 190) 0 (hz_dec kX10_add 102 rfl) rfl ?_
        refine hz_mulN (pc := 192) (hz_dec kX10_add 103 rfl) ?_
        refine hz_aloadn (pc := 193) 1 (hz_dec kX10_add 104 rfl) rfl ?_
        refine hz_get (pc := 194) (hz_dec kX10_add 105 rfl) fo_X10_37 (hz_mne n0 (by omega)) (by omega) (by omega) rfl ?_
        refine hz_bipush (pc := 197) (v := nI 8) (hz_dec kX10_add 106 rfl) (by decide) ?_
        refine hz_aloadn (pc := 199) 1 (hz_dec kX10_add 107 rfl) rfl ?_
        refine hz_get (pc := 200) (hz_dec kX10_add 108 rfl) fo_X10_64 (hz_mne n0 (by omega)) (by omega) (by omega) rfl ?_
        refine hz_mulN (pc := 203) (hz_dec kX10_add 109 rfl) ?_
        refine hz_xS (pc := 204) (As := [.ref (t + 9), .int (nI (8 * 0)), .ref (t + 9), .int (nI (8 * 0))]) (st := []) (hz_dec kX10_add 110 rfl) co_X10_102 sc_X9_compareWords (c_cmpW (va_up_self _ _ _) (by omega) (by omega) (by decide) (va_up_self _ _ _) (by omega) (by omega) (by decide) (by omega) (by omega)) rfl (by decide) ⟨Nat.le_refl _, Nat.le_refl _⟩ (Nat.le_of_ble_eq_true rfl) rfl ?_
        refine hz_if_le (pc := 207) (tgt := 227) (hz_dec kX10_add 111 rfl) (by decide) (fun h7 => ?_) (fun h7 => ?_)
        · skip
          refine hz_vret (pc := 227) (hz_dec kX10_add 121 rfl) rfl ⟨rfl, rfl, (fun q hq => by simp only [outS, and_true] at hq; exact (eq4 q (by omega)).trans ((eq3 q (by omega)).trans (eq2 q (by omega)))), hw3.fs (fun q q1 q2 => eq4 q (by omega)), ?_⟩
          have k0 : ∀ k, k < [fiB l].length → k = 0 := fun k hk => by have q : k < 1 := hk; omega
          refine ⟨(eq4 t (by omega)).trans n0, hr3.fr (fun q q1 q2 => eq4 q (by omega)), ⟨_, (eq4 _ (by omega)).trans n4, fun k hk => ?_⟩, ⟨_, _, _, _, (eq4 _ (by omega)).trans n5, (eq4 _ (by omega)).trans n6, (eq4 _ (by omega)).trans n7, (eq4 _ (by omega)).trans n8, fun k hk => ?_⟩, ⟨g, va_up_self _ _ _, fun k hk => ?_⟩, ⟨_, (eq4 _ (by omega)).trans n10, fun k hk j hj => ?_⟩, ⟨_, (eq4 _ (by omega)).trans n11, fun h9 hh9 => ?_⟩, ⟨_, (eq4 _ (by omega)).trans n12⟩, ⟨show (1 : Nat) ≤ 113 by decide, Nat.le_refl 1, show (1 : Nat) ≤ 129 by decide, fun k hk => ?_, fun k hk => ?_, Nat.one_pos⟩⟩
          · rw [k0 k hk]
            intro j hj
            have hj2 : j < (haS l).length := hj
            rw [haS_len] at hj2
            unfold va_cpy
            rw [if_pos (by omega), show 0 + (32 * 0 + j - 32 * 0) = 0 + j by omega]
            exact hH j hj
          · have e : k = 0 := by have q : k < 1 := hk; omega
            rw [e]
            exact ⟨rfl, rfl, rfl, rfl⟩
          · rw [k0 k hk]
            exact hgn
          · rw [k0 k hk] at hj ⊢
            have hj3 : j < bkN l := hj
            unfold va_cpy
            rw [if_pos (by omega), show 0 + (8 * 0 + j - 8 * 0) = j by omega]
            exact hfi9 j hj
          · have e : h9 = 0 := by have q : h9 ≤ 0 := hh9; omega
            rw [e]
            rfl
          · rw [k0 k hk]
            rfl
          · have e : k = 0 := by have q : k < 1 := hk; omega
            subst e
            exact ⟨fun p hp => (by cases hp), fun _ => ⟨rfl, rfl⟩, tm_pos hbf2, hR⟩
        · skip
          exact absurd (cmpN_gt.mp h7) (Nat.lt_irrefl _)
      · skip
        exact absurd h5 (by omega)
