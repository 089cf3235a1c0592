/-! Tree.add -/
theorem enL_app {en : List en_E} {e : en_E} {k : Nat} (h : k < en.length) : enL (en ++ [e]) k = enL en k := by
  unfold enL
  rw [List.getD_eq_getElem?_getD, List.getD_eq_getElem?_getD, List.getElem?_append_left h]
theorem enL_last {en : List en_E} {e : en_E} : enL (en ++ [e]) en.length = e := by
  unfold enL
  rw [List.getD_eq_getElem?_getD, List.getElem?_append_right (Nat.le_refl _), Nat.sub_self]
  rfl
theorem bkL_app {bl : List bk_B} {b : bk_B} {k : Nat} (h : k < bl.length) : bkL (bl ++ [b]) k = bkL bl k := by
  unfold bkL
  rw [List.getD_eq_getElem?_getD, List.getD_eq_getElem?_getD, List.getElem?_append_left h]
theorem bkL_last {bl : List bk_B} {b : bk_B} : bkL (bl ++ [b]) bl.length = b := by
  unfold bkL
  rw [List.getD_eq_getElem?_getD, List.getElem?_append_right (Nat.le_refl _), Nat.sub_self]
  rfl
theorem eH_app {en : List en_E} {e : en_E} {k : Nat} (h : k < en.length) : eH (en ++ [e]) k = eH en k := by unfold eH; rw [enL_app h]
theorem eP_app {en : List en_E} {e : en_E} {k : Nat} (h : k < en.length) : eP (en ++ [e]) k = eP en k := by unfold eP; rw [enL_app h]
theorem upE_app {en : List en_E} {e : en_E} (hw : wfE en) {k : Nat} (hk : k < en.length) : ∀ i, i ≤ eH en k → upE (en ++ [e]) k i = upE en k i := by
  intro i
  induction i with
  | zero => intro _; rfl
  | succ i ih =>
    intro hi
    have q := hw.up hk i (by omega)
    simp only [upE]
    rw [ih (by omega), eP_app (by omega)]
theorem chE_app {en : List en_E} {e : en_E} (hw : wfE en) {k : Nat} (hk : k < en.length) {h : Nat} : chE (en ++ [e]) k h = chE en k h := by
  unfold chE
  rw [eH_app hk, upE_app hw hk _ (by omega)]
theorem wfE_app {en : List en_E} {p h : Nat} {tm bi : Int32} (hw : wfE en) (hp : p < en.length) (hh : h = eH en p + 1) (ht : ¬ tm < 0) (hb : tgR bi = true) : wfE (en ++ [(some p, h, tm, bi)]) := by
  intro k hk
  rw [List.length_append] at hk
  have hk2 : k < en.length + 1 := hk
  rcases (show k < en.length ∨ k = en.length by omega) with c | c
  · obtain ⟨a1, a2, a3, a4⟩ := hw k c
    refine ⟨fun q hq => ?_, fun hq => ?_, ?_, ?_⟩
    · rw [eP_app c] at hq
      have r := a1 q hq
      rw [eH_app c, eH_app (by omega)]
      exact r
    · rw [eP_app c] at hq
      rw [eH_app c]
      exact a2 hq
    · unfold eT; rw [enL_app c]; exact a3
    · unfold eB; rw [enL_app c]; exact a4
  · subst c
    refine ⟨fun q hq => ?_, fun hq => ?_, ?_, ?_⟩
    · unfold eP at hq
      rw [enL_last] at hq
      cases hq
      rw [eH_app hp]
      unfold eH
      rw [enL_last]
      exact ⟨hp, hh⟩
    · unfold eP at hq
      rw [enL_last] at hq
      cases hq
    · unfold eT; rw [enL_last]; exact ht
    · unfold eB; rw [enL_last]; exact hb
theorem tm_pos {f : Nat → Int32} {a : Nat} (h : bb (f a) < 128) : ¬ bn_int f a < 0 := by
  unfold bn_int
  refine nI_pos ?_
  have h1 := bb_lt (f (a + 1))
  have h2 := bb_lt (f (a + 2))
  have h3 := bb_lt (f (a + 3))
  simp only [bn_nat]
  rw [Nat.add_zero]
  omega
/-- the work of bits -/
def wkN (bi : Int32) : Nat := 2 ^ 256 / (tgT bi + 1)
def bkN_ (bl : List bk_B) (en : List en_E) (l : by_L) (p : Nat) : bk_B := (l, some p, eH en p + 1, bTo bl p + wkN (bn_int (lf l) 68))
def enN_ (en : List en_E) (l : by_L) (p : Nat) : en_E := (some p, eH en p + 1, bn_int (lf l) 64, bn_int (lf l) 68)
def tipN (bl : List bk_B) (l : by_L) (p tip : Nat) : Nat := if bTo bl tip < bTo bl p + wkN (bn_int (lf l) 68) then bl.length else tip
theorem cmpN_gt {x y : Nat} : ¬ cmpN x y ≤ 0 ↔ y < x := by rw [cmpN_le]; omega
set_option maxHeartbeats 4000000 in
set_option maxRecDepth 100000 in
theorem c_trAdd {κ : hz_C} {z : Nat} {M : hz_M} {t : Nat} {bl : List bk_B} {tip : Nat} {en : List en_E} (h : trR M t bl tip en) (ht8 : 63 ≤ t) (htz : t + 13 ≤ z) (hel : en.length = bl.length) (hw : ck_w M) {b n p : Nat} {f fhJ : Nat → Int32} {fi : Nat → Int64} {l : by_L} (hB : M b = .inl (1, n, .inl f)) (hb8 : 39 ≤ b) (hbz : b < z) (hbo : b < t ∨ t + 13 ≤ b) (hn : n < 2 ^ 24) (hA : isA f 0 l) (hln : l.length ≤ n) (hWl : blW l) (hR : tgR (bn_int (lf l) 68) = true) (h37 : M 37 = .inl (1, 32, .inl fhJ)) (hH : isA fhJ 0 (haS l)) (h38 : M 38 = .inl (2, 8, .inr (.inl fi))) (hfi9 : ∀ j, j < bkN l → fi j = idS (bkT l j)) (hblx : blX bl) (hp : p < bl.length) (h113 : bl.length < 113) (hroom : offL (bl.map Prod.fst) bl.length + l.length ≤ 12391) (hto : bTo bl p + wkN (bn_int (lf l) 68) < 4294967296 ^ 8) : hz_Mt κ xX10_add 3 0 0 [.ref t, .ref b, .int (nI l.length), .ref 37, .ref 38, .int (nI p)] z M (fun r z2 M2 => none = r ∧ z = z2 ∧ frS [(t, t + 13), (20, 25)] M M2 ∧ ck_w M2 ∧ trR M2 t (bl ++ [bkN_ bl en l p]) (tipN bl l p tip) (en ++ [enN_ en l p])) := by
  refine hz_ent (lo := [(0, .ref t), (1, .ref b), (2, .int (nI (l.length))), (3, .ref 37), (4, .ref 38), (5, .int (nI p))]) (by decide) (Nat.le_of_ble_eq_true rfl) rfl ?_
  obtain ⟨hT, hrw, ⟨fh, hfh, hfhX⟩, ⟨fb, fht, ftm, fbi, hfb, hfht, hftm, hfbi, hEX⟩, ⟨fto, hfto, hftoX⟩, ⟨fid, hfid, hfidX⟩, ⟨fc, hfc, hfcX⟩, ⟨fm, hfm⟩, hl113, hlen, hen, hst, hwf, htip⟩ := id h
  obtain ⟨hO1, hle1, hoff1, f1, g1, hf1, hg1, hX1⟩ := id hrw
  rw [List.length_map] at hO1 hle1
  obtain ⟨hbf1, hbf2, hbf3, hbf4, hbf5, hbf6, hbf7⟩ := hWl.f
  have hln9 := hWl.len
  have hpe := hwf.ht (k := p) (by omega)
  refine hz_aloadn (pc := 0) 0 (hz_dec kX10_add 0 rfl) rfl ?_
  refine hz_get (pc := 1) (hz_dec kX10_add 1 rfl) fo_X10_14 hT (by omega) (by omega) rfl ?_
  refine hz_get (pc := 4) (hz_dec kX10_add 2 rfl) fo_X10_54 hO1 (by omega) (by omega) rfl ?_
  refine hz_istore (pc := 7) (i := 6) (lo2 := [(6, .int (nI (bl.length))), (0, .ref t), (1, .ref b), (2, .int (nI (l.length))), (3, .ref 37), (4, .ref 38), (5, .int (nI p))]) (hz_dec kX10_add 3 rfl) (by decide) rfl ?_
  refine hz_iload (pc := 9) 6 (hz_dec kX10_add 4 rfl) rfl ?_
  refine hz_iload (pc := 11) 0 (hz_dec kX10_add 5 rfl) rfl ?_
  refine hz_n_ge (pc := 13) (tgt := 37) (hz_dec kX10_add 6 rfl) (by decide) (by omega) (by omega) (fun h0 => ?_) (fun h0 => ?_)
  · skip
    exact absurd h0 (by omega)
  · skip
    refine hz_aload (pc := 16) 5 (hz_dec kX10_add 7 rfl) rfl ?_
    refine hz_alen (pc := 18) (hz_dec kX10_add 8 rfl) h38 (by decide) (by decide) (by omega) ?_
    refine hz_bipush (pc := 19) (v := nI 8) (hz_dec kX10_add 9 rfl) (by decide) ?_
    refine hz_n_lt (pc := 21) (tgt := 37) (hz_dec kX10_add 10 rfl) (by decide) (by omega) (by omega) (fun h2 => ?_) (fun h2 => ?_)
    · skip
      exact absurd h2 (by omega)
    · skip
      refine hz_aloadn (pc := 24) 1 (hz_dec kX10_add 11 rfl) rfl ?_
      refine hz_get (pc := 25) (hz_dec kX10_add 12 rfl) fo_X10_14 hT (by omega) (by omega) rfl ?_
      refine hz_aloadn (pc := 28) 2 (hz_dec kX10_add 13 rfl) rfl ?_
      refine hz_iconst (pc := 29) (v := nI 0) (hz_dec kX10_add 14 rfl) (by decide) ?_
      refine hz_iloadn (pc := 30) 3 (hz_dec kX10_add 15 rfl) rfl ?_
      refine hz_callV (pc := 31) (a := t + 1) (As := [.ref b, .int (nI 0), .int (nI (l.length))]) (st := []) (hz_dec kX10_add 16 rfl) co_X10_73 im_X7_add se_X7_add rfl hO1 (by omega) (by omega) (c_rwAdd hrw (by omega) (by omega) (by decide) (by decide) hB (by omega) hbz (by omega) hA (by omega) (by omega) (by rw [List.length_map]; exact h113) (by rw [List.length_map]; exact hroom)) rfl (by decide) ⟨Nat.le_refl _, Nat.le_refl _⟩ (Nat.le_of_ble_eq_true rfl) rfl (fun r9 z9 M1 hp9 => ?_)
      obtain ⟨rfl, rfl, hq1, hr1⟩ := hp9
      have eq1 : ∀ q, q < t + 1 ∨ t + 4 ≤ q → M1 q = M q := fun q hq => hq1.at1 (by omega)
      have hT1 := (eq1 t (by omega)).trans hT
      have hfh1 := (eq1 (t + 4) (by omega)).trans hfh
      have hfb1 := (eq1 (t + 5) (by omega)).trans hfb
      have hfht1 := (eq1 (t + 6) (by omega)).trans hfht
      have hftm1 := (eq1 (t + 7) (by omega)).trans hftm
      have hfbi1 := (eq1 (t + 8) (by omega)).trans hfbi
      have hfto1 := (eq1 (t + 9) (by omega)).trans hfto
      have hfid1 := (eq1 (t + 10) (by omega)).trans hfid
      have hfc1 := (eq1 (t + 11) (by omega)).trans hfc
      have hfm1 := (eq1 (t + 12) (by omega)).trans hfm
      have h371 := (eq1 37 (by omega)).trans h37
      have h381 := (eq1 38 (by omega)).trans h38
      have hB1 := (eq1 b (by omega)).trans hB
      refine hz_z_ne (pc := 34) (tgt := 38) (hz_dec kX10_add 17 rfl) (by decide) (by omega) (fun h5 => ?_) (fun h5 => ?_)
      · skip
        refine hz_aloadn (pc := 38) 4 (hz_dec kX10_add 19 rfl) rfl ?_
        refine hz_iconst (pc := 39) (v := nI 0) (hz_dec kX10_add 20 rfl) (by decide) ?_
        refine hz_aloadn (pc := 40) 1 (hz_dec kX10_add 21 rfl) rfl ?_
        refine hz_get (pc := 41) (hz_dec kX10_add 22 rfl) fo_X10_20 hT1 (by omega) (by omega) rfl ?_
        refine hz_bipush (pc := 44) (v := nI 32) (hz_dec kX10_add 23 rfl) (by decide) ?_
        refine hz_iload (pc := 46) 0 (hz_dec kX10_add 24 rfl) rfl ?_
        refine hz_mulN (pc := 48) (hz_dec kX10_add 25 rfl) ?_
        refine hz_bipush (pc := 49) (v := nI 32) (hz_dec kX10_add 26 rfl) (by decide) ?_
        refine hz_xS (pc := 51) (As := [.ref 37, .int (nI 0), .ref (t + 4), .int (nI (32 * (bl.length))), .int (nI 32)]) (st := []) (hz_dec kX10_add 27 rfl) co_X10_77 sc_X0_copy (c_copy h371 (by decide) (by omega) (by decide) hfh1 (by omega) (by omega) (by decide) (by omega) (by omega)) rfl (by decide) ⟨Nat.le_refl _, Nat.le_refl _⟩ (Nat.le_of_ble_eq_true rfl) rfl ?_
        refine hz_aload (pc := 54) 5 (hz_dec kX10_add 28 rfl) rfl ?_
        refine hz_iconst (pc := 56) (v := nI 0) (hz_dec kX10_add 29 rfl) (by decide) ?_
        refine hz_aloadn (pc := 57) 1 (hz_dec kX10_add 30 rfl) rfl ?_
        refine hz_get (pc := 58) (hz_dec kX10_add 31 rfl) fo_X10_40 (hz_mne hT1 (by omega)) (by omega) (by omega) rfl ?_
        refine hz_bipush (pc := 61) (v := nI 8) (hz_dec kX10_add 32 rfl) (by decide) ?_
        refine hz_iload (pc := 63) 0 (hz_dec kX10_add 33 rfl) rfl ?_
        refine hz_mulN (pc := 65) (hz_dec kX10_add 34 rfl) ?_
        refine hz_bipush (pc := 66) (v := nI 8) (hz_dec kX10_add 35 rfl) (by decide) ?_
        refine hz_copyL (pc := 68) (hz_dec kX10_add 36 rfl) ac_X10_81 (hz_mne h381 (by omega)) (by decide) (by omega) (hz_mne hfid1 (by omega)) (by omega) (by omega) (by omega) (by omega) (by decide) (by decide) (by decide) (by decide) ?_
        refine hz_aloadn (pc := 71) 1 (hz_dec kX10_add 37 rfl) rfl ?_
        refine hz_iload (pc := 72) 0 (hz_dec kX10_add 38 rfl) rfl ?_
        refine hz_iload (pc := 74) 6 (hz_dec kX10_add 39 rfl) rfl ?_
        refine hz_aloadn (pc := 76) 2 (hz_dec kX10_add 40 rfl) rfl ?_
        refine hz_iconst (pc := 77) (v := nI 0) (hz_dec kX10_add 41 rfl) (by decide) ?_
        refine hz_xV (pc := 78) (a := t) (As := [.int (nI (bl.length)), .int (nI p), .ref b, .int (nI 0)]) (st := []) (hz_dec kX10_add 42 rfl) co_X10_87 im_X10_note se_X10_note rfl (hz_mne (hz_mne hT1 (by omega)) (by omega)) (by omega) (by omega) (c_note1 (hz_mne (hz_mne hT1 (by omega)) (by omega)) ht8 htz (hz_mne (hz_mne hfb1 (by omega)) (by omega)) (hz_mne (hz_mne hfht1 (by omega)) (by omega)) (hz_mne (hz_mne hftm1 (by omega)) (by omega)) (hz_mne (hz_mne hfbi1 (by omega)) (by omega)) (hz_mne (hz_mne hB1 (by omega)) (by omega)) (by omega) hbz hbo hn (by omega) (by omega) (by omega) (hEX p (by omega)).2.1 (by omega)) rfl (by decide) ⟨Nat.le_refl _, Nat.le_refl _⟩ (Nat.le_of_ble_eq_true rfl) rfl ?_
        have e64 : bn_int f (0 + 64) = bn_int (lf l) 64 := int_of hA (by omega)
        have e68 : bn_int f (0 + 68) = bn_int (lf l) 68 := int_of hA (by omega)
        rw [e64, e68]
        refine hz_aloadn (pc := 81) 1 (hz_dec kX10_add 43 rfl) rfl ?_
        refine hz_get (pc := 82) (hz_dec kX10_add 44 rfl) fo_X10_50 (hz_mne (hz_mne (hz_mne (hz_mne (hz_mne (hz_mne hT1 (by omega)) (by omega)) (by omega)) (by omega)) (by omega)) (by omega)) (by omega) (by omega) rfl ?_
        refine hz_aloadn (pc := 85) 1 (hz_dec kX10_add 45 rfl) rfl ?_
        refine hz_get (pc := 86) (hz_dec kX10_add 46 rfl) fo_X10_34 (hz_mne (hz_mne (hz_mne (hz_mne (hz_mne (hz_mne hT1 (by omega)) (by omega)) (by omega)) (by omega)) (by omega)) (by omega)) (by omega) (by omega) rfl ?_
        refine hz_iload (pc := 89) 0 (hz_dec kX10_add 47 rfl) rfl ?_
        refine hz_iald (pc := 91) (j := bl.length) (hz_dec kX10_add 48 rfl) (va_up_self _ _ _) (by omega) (by omega) rfl (by omega) (by decide) ?_
        refine hz_eqi (pc := 92) (show _ = bn_int (lf l) 68 by simp only [upd]; exact if_pos trivial) ?_
        have m0 : (va_up (va_up (va_up (va_up (va_up (va_up M1 (t + 4) (.inl (1, 3616, .inl (va_cpy fhJ fh 0 (32 * bl.length) 32)))) (t + 10) (.inl (2, 904, .inr (.inl (va_cpy fi fid 0 (8 * bl.length) 8))))) (t + 5) (.inl (0, 129, .inl (upd fb bl.length (nI p))))) (t + 6) (.inl (0, 129, .inl (upd fht bl.length (nI (eH en p + 1)))))) (t + 7) (.inl (0, 129, .inl (upd ftm bl.length (bn_int (lf l) 64))))) (t + 8) (.inl (0, 129, .inl (upd fbi bl.length (bn_int (lf l) 68))))) (t) = .inr (10, [.ref (t + 1), .ref (t + 4), .ref (t + 5), .ref (t + 6), .ref (t + 7), .ref (t + 8), .ref (t + 9), .ref (t + 10), .int (nI tip), .ref (t + 11), .ref (t + 12), .ref 20]) := (hz_mne (hz_mne (hz_mne (hz_mne (hz_mne (hz_mne hT1 (by omega)) (by omega)) (by omega)) (by omega)) (by omega)) (by omega))
        have m4 : (va_up (va_up (va_up (va_up (va_up (va_up M1 (t + 4) (.inl (1, 3616, .inl (va_cpy fhJ fh 0 (32 * bl.length) 32)))) (t + 10) (.inl (2, 904, .inr (.inl (va_cpy fi fid 0 (8 * bl.length) 8))))) (t + 5) (.inl (0, 129, .inl (upd fb bl.length (nI p))))) (t + 6) (.inl (0, 129, .inl (upd fht bl.length (nI (eH en p + 1)))))) (t + 7) (.inl (0, 129, .inl (upd ftm bl.length (bn_int (lf l) 64))))) (t + 8) (.inl (0, 129, .inl (upd fbi bl.length (bn_int (lf l) 68))))) (t + 4) = .inl (1, 3616, .inl (va_cpy fhJ fh 0 (32 * bl.length) 32)) := (hz_mne (hz_mne (hz_mne (hz_mne (hz_mne (va_up_self _ _ _) (by omega)) (by omega)) (by omega)) (by omega)) (by omega))
        have m5 : (va_up (va_up (va_up (va_up (va_up (va_up M1 (t + 4) (.inl (1, 3616, .inl (va_cpy fhJ fh 0 (32 * bl.length) 32)))) (t + 10) (.inl (2, 904, .inr (.inl (va_cpy fi fid 0 (8 * bl.length) 8))))) (t + 5) (.inl (0, 129, .inl (upd fb bl.length (nI p))))) (t + 6) (.inl (0, 129, .inl (upd fht bl.length (nI (eH en p + 1)))))) (t + 7) (.inl (0, 129, .inl (upd ftm bl.length (bn_int (lf l) 64))))) (t + 8) (.inl (0, 129, .inl (upd fbi bl.length (bn_int (lf l) 68))))) (t + 5) = .inl (0, 129, .inl (upd fb bl.length (nI p))) := (hz_mne (hz_mne (hz_mne (va_up_self _ _ _) (by omega)) (by omega)) (by omega))
        have m6 : (va_up (va_up (va_up (va_up (va_up (va_up M1 (t + 4) (.inl (1, 3616, .inl (va_cpy fhJ fh 0 (32 * bl.length) 32)))) (t + 10) (.inl (2, 904, .inr (.inl (va_cpy fi fid 0 (8 * bl.length) 8))))) (t + 5) (.inl (0, 129, .inl (upd fb bl.length (nI p))))) (t + 6) (.inl (0, 129, .inl (upd fht bl.length (nI (eH en p + 1)))))) (t + 7) (.inl (0, 129, .inl (upd ftm bl.length (bn_int (lf l) 64))))) (t + 8) (.inl (0, 129, .inl (upd fbi bl.length (bn_int (lf l) 68))))) (t + 6) = .inl (0, 129, .inl (upd fht bl.length (nI (eH en p + 1)))) := (hz_mne (hz_mne (va_up_self _ _ _) (by omega)) (by omega))
        have m7 : (va_up (va_up (va_up (va_up (va_up (va_up M1 (t + 4) (.inl (1, 3616, .inl (va_cpy fhJ fh 0 (32 * bl.length) 32)))) (t + 10) (.inl (2, 904, .inr (.inl (va_cpy fi fid 0 (8 * bl.length) 8))))) (t + 5) (.inl (0, 129, .inl (upd fb bl.length (nI p))))) (t + 6) (.inl (0, 129, .inl (upd fht bl.length (nI (eH en p + 1)))))) (t + 7) (.inl (0, 129, .inl (upd ftm bl.length (bn_int (lf l) 64))))) (t + 8) (.inl (0, 129, .inl (upd fbi bl.length (bn_int (lf l) 68))))) (t + 7) = .inl (0, 129, .inl (upd ftm bl.length (bn_int (lf l) 64))) := (hz_mne (va_up_self _ _ _) (by omega))
        have m8 : (va_up (va_up (va_up (va_up (va_up (va_up M1 (t + 4) (.inl (1, 3616, .inl (va_cpy fhJ fh 0 (32 * bl.length) 32)))) (t + 10) (.inl (2, 904, .inr (.inl (va_cpy fi fid 0 (8 * bl.length) 8))))) (t + 5) (.inl (0, 129, .inl (upd fb bl.length (nI p))))) (t + 6) (.inl (0, 129, .inl (upd fht bl.length (nI (eH en p + 1)))))) (t + 7) (.inl (0, 129, .inl (upd ftm bl.length (bn_int (lf l) 64))))) (t + 8) (.inl (0, 129, .inl (upd fbi bl.length (bn_int (lf l) 68))))) (t + 8) = .inl (0, 129, .inl (upd fbi bl.length (bn_int (lf l) 68))) := (va_up_self _ _ _)
        have m9 : (va_up (va_up (va_up (va_up (va_up (va_up M1 (t + 4) (.inl (1, 3616, .inl (va_cpy fhJ fh 0 (32 * bl.length) 32)))) (t + 10) (.inl (2, 904, .inr (.inl (va_cpy fi fid 0 (8 * bl.length) 8))))) (t + 5) (.inl (0, 129, .inl (upd fb bl.length (nI p))))) (t + 6) (.inl (0, 129, .inl (upd fht bl.length (nI (eH en p + 1)))))) (t + 7) (.inl (0, 129, .inl (upd ftm bl.length (bn_int (lf l) 64))))) (t + 8) (.inl (0, 129, .inl (upd fbi bl.length (bn_int (lf l) 68))))) (t + 9) = .inl (0, 904, .inl (fto)) := (hz_mne (hz_mne (hz_mne (hz_mne (hz_mne (hz_mne hfto1 (by omega)) (by omega)) (by omega)) (by omega)) (by omega)) (by omega))
        have m10 : (va_up (va_up (va_up (va_up (va_up (va_up M1 (t + 4) (.inl (1, 3616, .inl (va_cpy fhJ fh 0 (32 * bl.length) 32)))) (t + 10) (.inl (2, 904, .inr (.inl (va_cpy fi fid 0 (8 * bl.length) 8))))) (t + 5) (.inl (0, 129, .inl (upd fb bl.length (nI p))))) (t + 6) (.inl (0, 129, .inl (upd fht bl.length (nI (eH en p + 1)))))) (t + 7) (.inl (0, 129, .inl (upd ftm bl.length (bn_int (lf l) 64))))) (t + 8) (.inl (0, 129, .inl (upd fbi bl.length (bn_int (lf l) 68))))) (t + 10) = .inl (2, 904, .inr (.inl (va_cpy fi fid 0 (8 * bl.length) 8))) := (hz_mne (hz_mne (hz_mne (hz_mne (va_up_self _ _ _) (by omega)) (by omega)) (by omega)) (by omega))
        have m11 : (va_up (va_up (va_up (va_up (va_up (va_up M1 (t + 4) (.inl (1, 3616, .inl (va_cpy fhJ fh 0 (32 * bl.length) 32)))) (t + 10) (.inl (2, 904, .inr (.inl (va_cpy fi fid 0 (8 * bl.length) 8))))) (t + 5) (.inl (0, 129, .inl (upd fb bl.length (nI p))))) (t + 6) (.inl (0, 129, .inl (upd fht bl.length (nI (eH en p + 1)))))) (t + 7) (.inl (0, 129, .inl (upd ftm bl.length (bn_int (lf l) 64))))) (t + 8) (.inl (0, 129, .inl (upd fbi bl.length (bn_int (lf l) 68))))) (t + 11) = .inl (0, 113, .inl (fc)) := (hz_mne (hz_mne (hz_mne (hz_mne (hz_mne (hz_mne hfc1 (by omega)) (by omega)) (by omega)) (by omega)) (by omega)) (by omega))
        have m12 : (va_up (va_up (va_up (va_up (va_up (va_up M1 (t + 4) (.inl (1, 3616, .inl (va_cpy fhJ fh 0 (32 * bl.length) 32)))) (t + 10) (.inl (2, 904, .inr (.inl (va_cpy fi fid 0 (8 * bl.length) 8))))) (t + 5) (.inl (0, 129, .inl (upd fb bl.length (nI p))))) (t + 6) (.inl (0, 129, .inl (upd fht bl.length (nI (eH en p + 1)))))) (t + 7) (.inl (0, 129, .inl (upd ftm bl.length (bn_int (lf l) 64))))) (t + 8) (.inl (0, 129, .inl (upd fbi bl.length (bn_int (lf l) 68))))) (t + 12) = .inl (0, 11, .inl (fm)) := (hz_mne (hz_mne (hz_mne (hz_mne (hz_mne (hz_mne hfm1 (by omega)) (by omega)) (by omega)) (by omega)) (by omega)) (by omega))
        have eq2 : ∀ q, q < t ∨ t + 13 ≤ q → (va_up (va_up (va_up (va_up (va_up (va_up M1 (t + 4) (.inl (1, 3616, .inl (va_cpy fhJ fh 0 (32 * bl.length) 32)))) (t + 10) (.inl (2, 904, .inr (.inl (va_cpy fi fid 0 (8 * bl.length) 8))))) (t + 5) (.inl (0, 129, .inl (upd fb bl.length (nI p))))) (t + 6) (.inl (0, 129, .inl (upd fht bl.length (nI (eH en p + 1)))))) (t + 7) (.inl (0, 129, .inl (upd ftm bl.length (bn_int (lf l) 64))))) (t + 8) (.inl (0, 129, .inl (upd fbi bl.length (bn_int (lf l) 68))))) q = M q := fun q hq => (hz_mne (hz_mne (hz_mne (hz_mne (hz_mne (hz_mne (eq1 q (by omega)) (by omega)) (by omega)) (by omega)) (by omega)) (by omega)) (by omega))
        have hr2 : rwR (va_up (va_up (va_up (va_up (va_up (va_up M1 (t + 4) (.inl (1, 3616, .inl (va_cpy fhJ fh 0 (32 * bl.length) 32)))) (t + 10) (.inl (2, 904, .inr (.inl (va_cpy fi fid 0 (8 * bl.length) 8))))) (t + 5) (.inl (0, 129, .inl (upd fb bl.length (nI p))))) (t + 6) (.inl (0, 129, .inl (upd fht bl.length (nI (eH en p + 1)))))) (t + 7) (.inl (0, 129, .inl (upd ftm bl.length (bn_int (lf l) 64))))) (t + 8) (.inl (0, 129, .inl (upd fbi bl.length (bn_int (lf l) 68))))) (t + 1) 12391 113 (bl.map Prod.fst ++ [l]) := hr1.fr (fun q q1 q2 => (hz_mne (hz_mne (hz_mne (hz_mne (hz_mne (hz_mne rfl (by omega)) (by omega)) (by omega)) (by omega)) (by omega)) (by omega)))
        have hw2 : ck_w (va_up (va_up (va_up (va_up (va_up (va_up M1 (t + 4) (.inl (1, 3616, .inl (va_cpy fhJ fh 0 (32 * bl.length) 32)))) (t + 10) (.inl (2, 904, .inr (.inl (va_cpy fi fid 0 (8 * bl.length) 8))))) (t + 5) (.inl (0, 129, .inl (upd fb bl.length (nI p))))) (t + 6) (.inl (0, 129, .inl (upd fht bl.length (nI (eH en p + 1)))))) (t + 7) (.inl (0, 129, .inl (upd ftm bl.length (bn_int (lf l) 64))))) (t + 8) (.inl (0, 129, .inl (upd fbi bl.length (bn_int (lf l) 68))))) := hw.fs (fun q q1 q2 => eq2 q (by omega))
        generalize hM2 : (va_up (va_up (va_up (va_up (va_up (va_up M1 (t + 4) (.inl (1, 3616, .inl (va_cpy fhJ fh 0 (32 * bl.length) 32)))) (t + 10) (.inl (2, 904, .inr (.inl (va_cpy fi fid 0 (8 * bl.length) 8))))) (t + 5) (.inl (0, 129, .inl (upd fb bl.length (nI p))))) (t + 6) (.inl (0, 129, .inl (upd fht bl.length (nI (eH en p + 1)))))) (t + 7) (.inl (0, 129, .inl (upd ftm bl.length (bn_int (lf l) 64))))) (t + 8) (.inl (0, 129, .inl (upd fbi bl.length (bn_int (lf l) 68))))) = M2 at *
        obtain ⟨wb0, h200, -⟩ := id hw2
        refine hz_callV (pc := 92) (a := 20) (As := [.int (bn_int (lf l) 68)]) (st := []) (hz_dec kX10_add 49 rfl) co_X10_91 im_X9_makeWork se_X9_makeWork rfl h200 (by decide) (by omega) (c_makeWork hw2 (by omega) hR) rfl (by decide) ⟨Nat.le_refl _, Nat.le_refl _⟩ (Nat.le_of_ble_eq_true rfl) rfl (fun r9 z9 M3 hp9 => ?_)
        obtain ⟨rfl, rfl, hf3, hw3, fw, h24, hwk⟩ := hp9
        have eq3 : ∀ q, q < 20 ∨ 25 ≤ q → M3 q = M2 q := fun q hq => hf3 q (fun o9 ho9 => by simp only [List.mem_cons, List.not_mem_nil, or_false] at ho9; omega)
        have n0 := (eq3 (t) (by omega)).trans m0
        have n4 := (eq3 (t + 4) (by omega)).trans m4
        have n5 := (eq3 (t + 5) (by omega)).trans m5
        have n6 := (eq3 (t + 6) (by omega)).trans m6
        have n7 := (eq3 (t + 7) (by omega)).trans m7
        have n8 := (eq3 (t + 8) (by omega)).trans m8
        have n9 := (eq3 (t + 9) (by omega)).trans m9
        have n10 := (eq3 (t + 10) (by omega)).trans m10
        have n11 := (eq3 (t + 11) (by omega)).trans m11
        have n12 := (eq3 (t + 12) (by omega)).trans m12
        have hr3 : rwR M3 (t + 1) 12391 113 (bl.map Prod.fst ++ [l]) := hr2.fr (fun q q1 q2 => eq3 q (by omega))
        obtain ⟨wb, h20, -⟩ := id hw3
        refine hz_lconst (pc := 95) (v := lN 0) (hz_dec kX10_add 50 rfl) (by decide) ?_
        refine hz_lstore (pc := 96) (i := 7) (lo2 := [(7, .long (lN 0)), (6, .int (nI (bl.length))), (0, .ref t), (1, .ref b), (2, .int (nI (l.length))), (3, .ref 37), (4, .ref 38), (5, .int (nI p))]) (hz_dec kX10_add 51 rfl) (by decide) rfl ?_
        refine hz_bipush (pc := 98) (v := nI 7) (hz_dec kX10_add 52 rfl) (by decide) ?_
        refine hz_istore (pc := 100) (i := 9) (lo2 := [(9, .int (nI 7)), (7, .long (lN 0)), (6, .int (nI (bl.length))), (0, .ref t), (1, .ref b), (2, .int (nI (l.length))), (3, .ref 37), (4, .ref 38), (5, .int (nI p))]) (hz_dec kX10_add 53 rfl) (by decide) rfl ?_
        refine hz_pick (pc := 102) [0, 1, 2, 8, 3] rfl ?_
        refine hz_mem (pc := 102) (hz_upid n9).symm ?_
        refine c_add_s1 n0 ht8 htz h20 h24 n9 h113 hp (fun g C hgl hgs => ?_) 8 fto 0 (Nat.le_refl _) (by decide) (fun x _ => rfl) rfl
        have eq4 : ∀ q, ¬ q = t + 9 → (va_up M3 (t + 9) (.inl (0, 904, .inl g))) q = M3 q := fun q hq => va_up_ne _ _ hq
        have hyb : yB (some p) fto 0 8 = bTo bl p := hftoX p hp
        have hgn : bg g (8 * bl.length) 8 = bTo bl p + wkN (bn_int (lf l) 68) := by
          have q := bg_lt g (8 * bl.length) 8
          rw [hwk, hyb] at hgs
          unfold wkN at hto ⊢
          generalize (4294967296 : Nat) ^ 8 = W at *
          generalize 2 ^ 256 / (tgT (bn_int (lf l) 68) + 1) = Z at *
          rcases Nat.eq_zero_or_pos C with c0 | c0
          · rw [c0, Nat.zero_mul] at hgs; omega
          · have r := Nat.le_mul_of_pos_left W c0; omega
        have hgo : ∀ k, k < bl.length → bg g (8 * k) 8 = bTo bl k := fun k hk => (bg_c 8 (fun i hi => hgl _ (by omega))).trans (hftoX k hk)
        refine hz_aloadn (pc := 184) 1 (hz_dec kX10_add 99 rfl) rfl ?_
        refine hz_get (pc := 185) (hz_dec kX10_add 100 rfl) fo_X10_37 (hz_mne n0 (by omega)) (by omega) (by omega) rfl ?_
        refine hz_bipush (pc := 188) (v := nI 8) (hz_dec kX10_add 101 rfl) (by decide) ?_
        refine hz_iload (pc := 190) 0 (hz_dec kX10_add 102 rfl) rfl ?_
        refine hz_mulN (pc := 192) (hz_dec kX10_add 103 rfl) ?_
        refine hz_aloadn (pc := 193) 1 (hz_dec kX10_add 104 rfl) rfl ?_
        refine hz_get (pc := 194) (hz_dec kX10_add 105 rfl) fo_X10_37 (hz_mne n0 (by omega)) (by omega) (by omega) rfl ?_
        refine hz_bipush (pc := 197) (v := nI 8) (hz_dec kX10_add 106 rfl) (by decide) ?_
        refine hz_aloadn (pc := 199) 1 (hz_dec kX10_add 107 rfl) rfl ?_
        refine hz_get (pc := 200) (hz_dec kX10_add 108 rfl) fo_X10_64 (hz_mne n0 (by omega)) (by omega) (by omega) rfl ?_
        refine hz_mulN (pc := 203) (hz_dec kX10_add 109 rfl) ?_
        refine hz_xS (pc := 204) (As := [.ref (t + 9), .int (nI (8 * (bl.length))), .ref (t + 9), .int (nI (8 * tip))]) (st := []) (hz_dec kX10_add 110 rfl) co_X10_102 sc_X9_compareWords (c_cmpW (va_up_self _ _ _) (by omega) (by omega) (by decide) (va_up_self _ _ _) (by omega) (by omega) (by decide) (by omega) (by omega)) rfl (by decide) ⟨Nat.le_refl _, Nat.le_refl _⟩ (Nat.le_of_ble_eq_true rfl) rfl ?_
        refine hz_eqi (pc := 207) (show _ = cmpN (bTo bl p + wkN (bn_int (lf l) 68)) (bTo bl tip) by rw [hgn, hgo tip htip]) ?_
        have hbyl : ∀ k, k < bl.length → bBy (bl ++ [bkN_ bl en l p]) k = bBy bl k := fun k hk => by unfold bBy; rw [bkL_app hk]
        have hbyn : bBy (bl ++ [bkN_ bl en l p]) bl.length = l := by unfold bBy; rw [bkL_last]; rfl
        have hLn : (bl ++ [bkN_ bl en l p]).length = bl.length + 1 := List.length_append ..
        have hEn : (en ++ [enN_ en l p]).length = bl.length + 1 := (List.length_append ..).trans (by rw [hel]; rfl)
        have hwfN : wfE (en ++ [enN_ en l p]) := wfE_app hwf (by omega) rfl (tm_pos hbf2) hR
        have cW : ∀ tp, tp < bl.length + 1 → trW (bl ++ [bkN_ bl en l p]) tp (en ++ [enN_ en l p]) := fun tp htp => ⟨by rw [hLn]; omega, by rw [hLn, hEn]; exact Nat.le_refl _, by rw [hEn]; omega, fun k hk => by
          rw [hLn] at hk
          rcases (show k < bl.length ∨ k = bl.length by omega) with c | c
          · rw [enL_app (by omega), bkL_app c]; exact hst k c
          · rw [c, bkL_last, ← hel, enL_last]; rfl, hwfN, by rw [hLn]; exact htp⟩
        have cX : enX (upd fb bl.length (nI p)) (upd fht bl.length (nI (eH en p + 1))) (upd ftm bl.length (bn_int (lf l) 64)) (upd fbi bl.length (bn_int (lf l) 68)) (en ++ [enN_ en l p]) := fun k hk => by
          rw [hEn] at hk
          rcases (show k < bl.length ∨ k = bl.length by omega) with c | c
          · have q := hEX k (by omega)
            unfold eP eH eT eB at q ⊢
            rw [enL_app (by omega)]
            simp only [upd, if_neg (show ¬ k = bl.length by omega)]
            exact q
          · unfold eP eH eT eB
            rw [c, ← hel, enL_last]
            simp only [upd]
            exact ⟨if_pos trivial, if_pos trivial, if_pos trivial, if_pos trivial⟩
        have cH : ∀ k, k < bl.length + 1 → isA (va_cpy fhJ fh 0 (32 * bl.length) 32) (32 * k) (haS (bBy (bl ++ [bkN_ bl en l p]) k)) := fun k hk => by
          rcases (show k < bl.length ∨ k = bl.length by omega) with c | c
          · rw [hbyl k c]
            refine isA_c (hfhX k c) (fun j hj => ?_)
            rw [haS_len] at hj
            unfold va_cpy
            rw [if_neg (by omega)]
          · rw [c, hbyn]
            intro j hj
            have hj2 := hj
            rw [haS_len] at hj2
            unfold va_cpy
            rw [if_pos (by omega), show 0 + (32 * bl.length + j - 32 * bl.length) = 0 + j by omega]
            exact hH j hj
        have cI : ∀ k, k < bl.length + 1 → ∀ j, j < bkN (bBy (bl ++ [bkN_ bl en l p]) k) → va_cpy fi fid 0 (8 * bl.length) 8 (8 * k + j) = idS (bkT (bBy (bl ++ [bkN_ bl en l p]) k) j) := fun k hk j hj => by
          unfold va_cpy
          rcases (show k < bl.length ∨ k = bl.length by omega) with c | c
          · rw [hbyl k c] at hj ⊢
            have q8 := (hblx k c).f.2.2.2.2.1
            rw [if_neg (by omega)]
            exact hfidX k c j hj
          · rw [c, hbyn] at hj ⊢
            rw [if_pos (by omega), show 0 + (8 * bl.length + j - 8 * bl.length) = j by omega]
            exact hfi9 j hj
        have cT : ∀ k, k < bl.length + 1 → bg g (8 * k) 8 = bTo (bl ++ [bkN_ bl en l p]) k := fun k hk => by
          unfold bTo
          rcases (show k < bl.length ∨ k = bl.length by omega) with c | c
          · rw [bkL_app c]; exact hgo k c
          · rw [c, bkL_last]; exact hgn
        refine hz_if_le (pc := 207) (tgt := 227) (hz_dec kX10_add 111 rfl) (by decide) (fun h7 => ?_) (fun h7 => ?_)
        · skip
          have hcm : ¬ bTo bl tip < bTo bl p + wkN (bn_int (lf l) 68) := fun q => (cmpN_gt.mpr q) h7
          have e9 : tipN bl l p tip = tip := if_neg hcm
          refine hz_vret (pc := 227) (hz_dec kX10_add 121 rfl) rfl ⟨rfl, rfl, (fun q hq => by simp only [outS, and_true] at hq; exact (eq4 q (by omega)).trans ((eq3 q (by omega)).trans (eq2 q (by omega)))), hw3.fs (fun q q1 q2 => eq4 q (by omega)), ?_⟩
          rw [e9]
          refine ⟨(eq4 t (by omega)).trans n0, by rw [List.map_append]; exact hr3.fr (fun q q1 q2 => eq4 q (by omega)), ⟨_, (eq4 _ (by omega)).trans n4, fun k hk => cH k (by rw [hLn] at hk; exact hk)⟩, ⟨_, _, _, _, (eq4 _ (by omega)).trans n5, (eq4 _ (by omega)).trans n6, (eq4 _ (by omega)).trans n7, (eq4 _ (by omega)).trans n8, cX⟩, ⟨g, va_up_self _ _ _, fun k hk => cT k (by rw [hLn] at hk; exact hk)⟩, ⟨_, (eq4 _ (by omega)).trans n10, fun k hk => cI k (by rw [hLn] at hk; exact hk)⟩, ⟨fc, (eq4 _ (by omega)).trans n11, fun h9 hh9 => ?_⟩, ⟨fm, (eq4 _ (by omega)).trans n12⟩, cW tip (by omega)⟩
          rw [eH_app (by omega)] at hh9
          rw [chE_app hwf (by omega)]
          exact hfcX h9 hh9
        · skip
          have hcm : bTo bl tip < bTo bl p + wkN (bn_int (lf l) 68) := cmpN_gt.mp h7
          have e9 : tipN bl l p tip = bl.length := if_pos hcm
          refine hz_aloadn (pc := 210) 1 (hz_dec kX10_add 112 rfl) rfl ?_
          refine hz_iload (pc := 211) 0 (hz_dec kX10_add 113 rfl) rfl ?_
          refine hz_puti (pc := 213) (hz_dec kX10_add 114 rfl) fo_X10_64 ft_X10_8 (hz_mne n0 (by omega)) (by omega) (by omega) (Nat.le_of_ble_eq_true rfl) ?_
          refine hz_mem (pc := 216) (M2 := (va_up (va_up M3 (t + 9) (.inl (0, 904, .inl (g)))) t (.inr (10, [.ref (t + 1), .ref (t + 4), .ref (t + 5), .ref (t + 6), .ref (t + 7), .ref (t + 8), .ref (t + 9), .ref (t + 10), .int (nI (bl.length)), .ref (t + 11), .ref (t + 12), .ref 20])))) rfl ?_
          refine hz_aloadn (pc := 216) 1 (hz_dec kX10_add 115 rfl) rfl ?_
          refine hz_iload (pc := 217) 0 (hz_dec kX10_add 116 rfl) rfl ?_
          refine hz_aloadn (pc := 219) 1 (hz_dec kX10_add 117 rfl) rfl ?_
          refine hz_get (pc := 220) (hz_dec kX10_add 118 rfl) fo_X10_44 (va_up_self _ _ _) (by omega) (by omega) rfl ?_
          have eq5 : ∀ q, ¬ q = t → (va_up (va_up M3 (t + 9) (.inl (0, 904, .inl (g)))) t (.inr (10, [.ref (t + 1), .ref (t + 4), .ref (t + 5), .ref (t + 6), .ref (t + 7), .ref (t + 8), .ref (t + 9), .ref (t + 10), .int (nI (bl.length)), .ref (t + 11), .ref (t + 12), .ref 20]))) q = (va_up M3 (t + 9) (.inl (0, 904, .inl g))) q := fun q hq => va_up_ne _ _ hq
          have hTQ : trQ (va_up (va_up M3 (t + 9) (.inl (0, 904, .inl (g)))) t (.inr (10, [.ref (t + 1), .ref (t + 4), .ref (t + 5), .ref (t + 6), .ref (t + 7), .ref (t + 8), .ref (t + 9), .ref (t + 10), .int (nI (bl.length)), .ref (t + 11), .ref (t + 12), .ref 20]))) t (bl ++ [bkN_ bl en l p]) bl.length (en ++ [enN_ en l p]) := ⟨va_up_self _ _ _, by rw [List.map_append]; exact hr3.fr (fun q q1 q2 => (eq5 q (by omega)).trans (eq4 q (by omega))), ⟨_, _, _, _, (eq5 _ (by omega)).trans ((eq4 _ (by omega)).trans n5), (eq5 _ (by omega)).trans ((eq4 _ (by omega)).trans n6), (eq5 _ (by omega)).trans ((eq4 _ (by omega)).trans n7), (eq5 _ (by omega)).trans ((eq4 _ (by omega)).trans n8), cX⟩, cW bl.length (by omega)⟩
          have hchl := hwfN.ht (k := bl.length) (by omega)
          refine hz_callV (pc := 223) (a := t) (As := [.int (nI (bl.length)), .ref (t + 11)]) (st := []) (hz_dec kX10_add 119 rfl) co_X10_106 im_X10_follow se_X10_follow rfl (va_up_self _ _ _) (by omega) (by omega) (c_trFo hTQ ht8 htz ((eq5 _ (by omega)).trans ((eq4 _ (by omega)).trans n11)) (by omega) (by omega) (by decide) (by omega) (by rw [hLn]; omega) (by omega)) rfl (by decide) ⟨Nat.le_refl _, Nat.le_refl _⟩ (Nat.le_of_ble_eq_true rfl) rfl (fun r9 z9 M9 hp9 => ?_)
          obtain ⟨rfl, rfl, fcN, hfcN, rfl⟩ := hp9
          refine hz_pop (pc := 226) (hz_dec kX10_add 120 rfl) rfl ?_
          have eq6 : ∀ q, ¬ q = t + 11 → (va_up (va_up (va_up M3 (t + 9) (.inl (0, 904, .inl (g)))) t (.inr (10, [.ref (t + 1), .ref (t + 4), .ref (t + 5), .ref (t + 6), .ref (t + 7), .ref (t + 8), .ref (t + 9), .ref (t + 10), .int (nI (bl.length)), .ref (t + 11), .ref (t + 12), .ref 20]))) (t + 11) (.inl (0, 113, .inl (fcN)))) q = (va_up (va_up M3 (t + 9) (.inl (0, 904, .inl (g)))) t (.inr (10, [.ref (t + 1), .ref (t + 4), .ref (t + 5), .ref (t + 6), .ref (t + 7), .ref (t + 8), .ref (t + 9), .ref (t + 10), .int (nI (bl.length)), .ref (t + 11), .ref (t + 12), .ref 20]))) q := fun q hq => va_up_ne _ _ hq
          refine hz_vret (pc := 227) (hz_dec kX10_add 121 rfl) rfl ⟨rfl, rfl, (fun q hq => by simp only [outS, and_true] at hq; exact (eq6 q (by omega)).trans ((eq5 q (by omega)).trans ((eq4 q (by omega)).trans ((eq3 q (by omega)).trans (eq2 q (by omega)))))), hw3.fs (fun q q1 q2 => (eq6 q (by omega)).trans ((eq5 q (by omega)).trans (eq4 q (by omega)))), ?_⟩
          rw [e9]
          exact ⟨(eq6 t (by omega)).trans (va_up_self _ _ _), hTQ.2.1.fr (fun q q1 q2 => eq6 q (by omega)), ⟨_, (eq6 _ (by omega)).trans ((eq5 _ (by omega)).trans ((eq4 _ (by omega)).trans n4)), fun k hk => cH k (by rw [hLn] at hk; exact hk)⟩, ⟨_, _, _, _, (eq6 _ (by omega)).trans ((eq5 _ (by omega)).trans ((eq4 _ (by omega)).trans n5)), (eq6 _ (by omega)).trans ((eq5 _ (by omega)).trans ((eq4 _ (by omega)).trans n6)), (eq6 _ (by omega)).trans ((eq5 _ (by omega)).trans ((eq4 _ (by omega)).trans n7)), (eq6 _ (by omega)).trans ((eq5 _ (by omega)).trans ((eq4 _ (by omega)).trans n8)), cX⟩, ⟨g, (eq6 _ (by omega)).trans ((eq5 _ (by omega)).trans (va_up_self _ _ _)), fun k hk => cT k (by rw [hLn] at hk; exact hk)⟩, ⟨_, (eq6 _ (by omega)).trans ((eq5 _ (by omega)).trans ((eq4 _ (by omega)).trans n10)), fun k hk => cI k (by rw [hLn] at hk; exact hk)⟩, ⟨fcN, va_up_self _ _ _, hfcN⟩, ⟨fm, (eq6 _ (by omega)).trans ((eq5 _ (by omega)).trans ((eq4 _ (by omega)).trans n12))⟩, cW bl.length (by omega)⟩
      · skip
        exact absurd h5 (by omega)
