/-! the draft; the seal; the root put -/
abbrev di_I : Type := Int64 × Int32 × Int64
abbrev do_O : Type := Int64 × Int64
def diL (l : List di_I) (k : Nat) : di_I := l.getD k (0, 0, 0)
def doL (l : List do_O) (k : Nat) : do_O := l.getD k (0, 0)
def diX (f1 : Nat → Int64) (f2 : Nat → Int32) (f3 : Nat → Int64) (l : List di_I) : Prop := ∀ k, k < l.length → f1 k = (diL l k).1 ∧ f2 k = (diL l k).2.1 ∧ f3 k = (diL l k).2.2
def doX (f1 f2 : Nat → Int64) (l : List do_O) : Prop := ∀ k, k < l.length → f1 k = (doL l k).1 ∧ f2 k = (doL l k).2
theorem diX_app {f1 : Nat → Int64} {f2 : Nat → Int32} {f3 : Nat → Int64} {l : List di_I} (h : diX f1 f2 f3 l) {a : Int64} {b : Int32} {c : Int64} : diX (vp_updL f1 l.length a) (upd f2 l.length b) (vp_updL f3 l.length c) (l ++ [(a, b, c)]) := by
  intro k hk
  rw [List.length_append] at hk
  have hk2 : k < l.length + 1 := hk
  unfold diL
  rw [List.getD_eq_getElem?_getD]
  rcases (show k = l.length ∨ k < l.length by omega) with e | c9
  · rw [e, List.getElem?_append_right (Nat.le_refl _), Nat.sub_self]
    simp [vp_updL, upd]
  · rw [List.getElem?_append_left c9, ← List.getD_eq_getElem?_getD]
    simp only [vp_updL, upd, if_neg (show ¬ k = l.length by omega)]
    exact h k c9
theorem doX_app {f1 f2 : Nat → Int64} {l : List do_O} (h : doX f1 f2 l) {a b : Int64} : doX (vp_updL f1 l.length a) (vp_updL f2 l.length b) (l ++ [(a, b)]) := by
  intro k hk
  rw [List.length_append] at hk
  have hk2 : k < l.length + 1 := hk
  unfold doL
  rw [List.getD_eq_getElem?_getD]
  rcases (show k = l.length ∨ k < l.length by omega) with e | c9
  · rw [e, List.getElem?_append_right (Nat.le_refl _), Nat.sub_self]
    simp [vp_updL]
  · rw [List.getElem?_append_left c9, ← List.getD_eq_getElem?_getD]
    simp only [vp_updL, if_neg (show ¬ k = l.length by omega)]
    exact h k c9
def dfR (M : hz_M) (li : List di_I) (lo : List do_O) : Prop := M 39 = .inr (2, [.int (nI li.length), .ref 40, .ref 41, .ref 42, .int (nI lo.length), .ref 43, .ref 44]) ∧ li.length ≤ 4 ∧ lo.length ≤ 4 ∧ (∃ (f1 : Nat → Int64) (f2 : Nat → Int32) (f3 : Nat → Int64), M 40 = .inl (2, 4, .inr (.inl f1)) ∧ M 41 = .inl (0, 4, .inl f2) ∧ M 42 = .inl (2, 4, .inr (.inl f3)) ∧ diX f1 f2 f3 li) ∧ ∃ f4 f5 : Nat → Int64, M 43 = .inl (2, 4, .inr (.inl f4)) ∧ M 44 = .inl (2, 4, .inr (.inl f5)) ∧ doX f4 f5 lo
def mdfR (M : hz_M) (B : Nat) (li : List di_I) (lo : List do_O) : Prop := fdB M B 96 = some (.int (nI li.length)) ∧ fdB M B 100 = some (.int (nI lo.length)) ∧ li.length ≤ 4 ∧ lo.length ≤ 4 ∧ diX (fL M B 81) (fA M B 82) (fL M B 83) li ∧ doX (fL M B 84) (fL M B 85) lo
set_option maxHeartbeats 4000000 in
set_option maxRecDepth 100000 in
theorem c_adI {κ : hz_C} {z : Nat} {M : hz_M} (hz : 63 ≤ z) {li : List di_I} {lo : List do_O} (hD : dfR M li lo) {iD sd : Int64} {pl : Int32} : hz_Mt κ xX2_addInput 0 0 0 [.ref 39, .long iD, .int pl, .long sd] z M (fun r z2 M2 => some (.int (if li.length < 4 then nI (li.length + 1) else -3)) = r ∧ z = z2 ∧ frS [(39, 45)] M M2 ∧ dfR M2 (if li.length < 4 then li ++ [(iD, pl, sd)] else li) lo) := by
  refine hz_ent (lo := [(0, .ref 39), (1, .long iD), (3, .int pl), (4, .long sd)]) (by decide) (Nat.le_of_ble_eq_true rfl) rfl ?_
  obtain ⟨hO, hl1, hl2, ⟨f1, f2, f3, g1, g2, g3, hX⟩, f4, f5, g4, g5, hY⟩ := id hD
  refine hz_aloadn (pc := 0) 0 (hz_dec kX2_addInput 0 rfl) rfl ?_
  refine hz_get (pc := 1) (hz_dec kX2_addInput 1 rfl) fo_X2_28 hO (by omega) (by omega) rfl ?_
  refine hz_iconst (pc := 4) (v := nI 4) (hz_dec kX2_addInput 2 rfl) (by decide) ?_
  refine hz_n_lt (pc := 5) (tgt := 11) (hz_dec kX2_addInput 3 rfl) (by decide) (by omega) (by omega) (fun h1 => ?_) (fun h1 => ?_)
  · skip
    refine hz_aloadn (pc := 11) 0 (hz_dec kX2_addInput 6 rfl) rfl ?_
    refine hz_get (pc := 12) (hz_dec kX2_addInput 7 rfl) fo_X2_9 hO (by omega) (by omega) rfl ?_
    refine hz_aloadn (pc := 15) 0 (hz_dec kX2_addInput 8 rfl) rfl ?_
    refine hz_get (pc := 16) (hz_dec kX2_addInput 9 rfl) fo_X2_28 hO (by omega) (by omega) rfl ?_
    refine hz_lloadn (pc := 19) 1 (hz_dec kX2_addInput 10 rfl) rfl ?_
    refine hz_last (pc := 20) (j := li.length) (hz_dec kX2_addInput 11 rfl) g1 (by omega) (by omega) rfl (by omega) (by decide) ?_
    refine hz_aloadn (pc := 21) 0 (hz_dec kX2_addInput 12 rfl) rfl ?_
    refine hz_get (pc := 22) (hz_dec kX2_addInput 13 rfl) fo_X2_15 (hz_mne hO (by omega)) (by omega) (by omega) rfl ?_
    refine hz_aloadn (pc := 25) 0 (hz_dec kX2_addInput 14 rfl) rfl ?_
    refine hz_get (pc := 26) (hz_dec kX2_addInput 15 rfl) fo_X2_28 (hz_mne hO (by omega)) (by omega) (by omega) rfl ?_
    refine hz_iloadn (pc := 29) 2 (hz_dec kX2_addInput 16 rfl) rfl ?_
    refine hz_iast (pc := 30) (j := li.length) (hz_dec kX2_addInput 17 rfl) (hz_mne g2 (by omega)) (by omega) (by omega) rfl (by omega) (by decide) ?_
    refine hz_aloadn (pc := 31) 0 (hz_dec kX2_addInput 18 rfl) rfl ?_
    refine hz_get (pc := 32) (hz_dec kX2_addInput 19 rfl) fo_X2_19 (hz_mne (hz_mne hO (by omega)) (by omega)) (by omega) (by omega) rfl ?_
    refine hz_aloadn (pc := 35) 0 (hz_dec kX2_addInput 20 rfl) rfl ?_
    refine hz_get (pc := 36) (hz_dec kX2_addInput 21 rfl) fo_X2_28 (hz_mne (hz_mne hO (by omega)) (by omega)) (by omega) (by omega) rfl ?_
    refine hz_lload (pc := 39) 3 (hz_dec kX2_addInput 22 rfl) rfl ?_
    refine hz_last (pc := 41) (j := li.length) (hz_dec kX2_addInput 23 rfl) (hz_mne (hz_mne g3 (by omega)) (by omega)) (by omega) (by omega) rfl (by omega) (by decide) ?_
    refine hz_aloadn (pc := 42) 0 (hz_dec kX2_addInput 24 rfl) rfl ?_
    refine hz_dup (pc := 43) (hz_dec kX2_addInput 25 rfl) rfl ?_
    refine hz_get (pc := 44) (hz_dec kX2_addInput 26 rfl) fo_X2_28 (hz_mne (hz_mne (hz_mne hO (by omega)) (by omega)) (by omega)) (by omega) (by omega) rfl ?_
    refine hz_iconst (pc := 47) (v := nI 1) (hz_dec kX2_addInput 27 rfl) (by decide) ?_
    refine hz_addN (pc := 48) (hz_dec kX2_addInput 28 rfl) ?_
    refine hz_puti (pc := 49) (hz_dec kX2_addInput 29 rfl) fo_X2_28 ft_X2_0 (hz_mne (hz_mne (hz_mne hO (by omega)) (by omega)) (by omega)) (by omega) (by omega) (Nat.le_of_ble_eq_true rfl) ?_
    refine hz_mem (pc := 52) (M2 := (va_up (va_up (va_up (va_up M 40 (.inl (2, 4, .inr (.inl (vp_updL f1 (li.length) (iD)))))) 41 (.inl (0, 4, .inl (upd f2 (li.length) ((pl)))))) 42 (.inl (2, 4, .inr (.inl (vp_updL f3 (li.length) (sd)))))) 39 (.inr (2, [.int (nI ((li.length) + 1)), .ref 40, .ref 41, .ref 42, .int (nI (lo.length)), .ref 43, .ref 44])))) rfl ?_
    refine hz_aloadn (pc := 52) 0 (hz_dec kX2_addInput 30 rfl) rfl ?_
    refine hz_get (pc := 53) (hz_dec kX2_addInput 31 rfl) fo_X2_28 (va_up_self _ _ _) (by omega) (by omega) rfl ?_
    refine hz_iret (pc := 56) (hz_dec kX2_addInput 32 rfl) rfl ⟨by rw [if_pos h1], rfl, (frS.upr (frS.upr (frS.upr (frS.up (by simp only [outS, and_true]; omega)) (by simp only [outS, and_true]; omega)) (by simp only [outS, and_true]; omega)) (by simp only [outS, and_true]; omega)), ?_⟩
    rw [if_pos h1]
    refine ⟨(va_up_self _ _ _).trans (by rw [List.length_append]; rfl), by rw [List.length_append]; exact h1, hl2, ⟨_, _, _, (hz_mne (hz_mne (hz_mne (va_up_self _ _ _) (by omega)) (by omega)) (by omega)), (hz_mne (hz_mne (va_up_self _ _ _) (by omega)) (by omega)), (hz_mne (va_up_self _ _ _) (by omega)), diX_app hX⟩, f4, f5, (hz_mne (hz_mne (hz_mne (hz_mne g4 (by omega)) (by omega)) (by omega)) (by omega)), (hz_mne (hz_mne (hz_mne (hz_mne g5 (by omega)) (by omega)) (by omega)) (by omega)), hY⟩
  · skip
    refine hz_bipush (pc := 8) (v := (-3)) (hz_dec kX2_addInput 4 rfl) (by decide) ?_
    refine hz_iret (pc := 10) (hz_dec kX2_addInput 5 rfl) rfl ⟨by rw [if_neg (by omega)], rfl, frS.rf, by rw [if_neg (by omega)]; exact hD⟩
set_option maxHeartbeats 4000000 in
set_option maxRecDepth 100000 in
theorem c_adO {κ : hz_C} {z : Nat} {M : hz_M} (hz : 63 ≤ z) {li : List di_I} {lo : List do_O} (hD : dfR M li lo) {am ad : Int64} : hz_Mt κ xX2_addOutput 0 0 0 [.ref 39, .long am, .long ad] z M (fun r z2 M2 => some (.int (if lo.length < 4 then nI (lo.length + 1) else -3)) = r ∧ z = z2 ∧ frS [(39, 45)] M M2 ∧ dfR M2 li (if lo.length < 4 then lo ++ [(am, ad)] else lo)) := by
  refine hz_ent (lo := [(0, .ref 39), (1, .long am), (3, .long ad)]) (by decide) (Nat.le_of_ble_eq_true rfl) rfl ?_
  obtain ⟨hO, hl1, hl2, ⟨f1, f2, f3, g1, g2, g3, hX⟩, f4, f5, g4, g5, hY⟩ := id hD
  refine hz_aloadn (pc := 0) 0 (hz_dec kX2_addOutput 0 rfl) rfl ?_
  refine hz_get (pc := 1) (hz_dec kX2_addOutput 1 rfl) fo_X2_32 hO (by omega) (by omega) rfl ?_
  refine hz_iconst (pc := 4) (v := nI 4) (hz_dec kX2_addOutput 2 rfl) (by decide) ?_
  refine hz_n_lt (pc := 5) (tgt := 11) (hz_dec kX2_addOutput 3 rfl) (by decide) (by omega) (by omega) (fun h1 => ?_) (fun h1 => ?_)
  · skip
    refine hz_aloadn (pc := 11) 0 (hz_dec kX2_addOutput 6 rfl) rfl ?_
    refine hz_get (pc := 12) (hz_dec kX2_addOutput 7 rfl) fo_X2_22 hO (by omega) (by omega) rfl ?_
    refine hz_aloadn (pc := 15) 0 (hz_dec kX2_addOutput 8 rfl) rfl ?_
    refine hz_get (pc := 16) (hz_dec kX2_addOutput 9 rfl) fo_X2_32 hO (by omega) (by omega) rfl ?_
    refine hz_lloadn (pc := 19) 1 (hz_dec kX2_addOutput 10 rfl) rfl ?_
    refine hz_last (pc := 20) (j := lo.length) (hz_dec kX2_addOutput 11 rfl) g4 (by omega) (by omega) rfl (by omega) (by decide) ?_
    refine hz_aloadn (pc := 21) 0 (hz_dec kX2_addOutput 12 rfl) rfl ?_
    refine hz_get (pc := 22) (hz_dec kX2_addOutput 13 rfl) fo_X2_25 (hz_mne hO (by omega)) (by omega) (by omega) rfl ?_
    refine hz_aloadn (pc := 25) 0 (hz_dec kX2_addOutput 14 rfl) rfl ?_
    refine hz_get (pc := 26) (hz_dec kX2_addOutput 15 rfl) fo_X2_32 (hz_mne hO (by omega)) (by omega) (by omega) rfl ?_
    refine hz_lloadn (pc := 29) 2 (hz_dec kX2_addOutput 16 rfl) rfl ?_
    refine hz_last (pc := 30) (j := lo.length) (hz_dec kX2_addOutput 17 rfl) (hz_mne g5 (by omega)) (by omega) (by omega) rfl (by omega) (by decide) ?_
    refine hz_aloadn (pc := 31) 0 (hz_dec kX2_addOutput 18 rfl) rfl ?_
    refine hz_dup (pc := 32) (hz_dec kX2_addOutput 19 rfl) rfl ?_
    refine hz_get (pc := 33) (hz_dec kX2_addOutput 20 rfl) fo_X2_32 (hz_mne (hz_mne hO (by omega)) (by omega)) (by omega) (by omega) rfl ?_
    refine hz_iconst (pc := 36) (v := nI 1) (hz_dec kX2_addOutput 21 rfl) (by decide) ?_
    refine hz_addN (pc := 37) (hz_dec kX2_addOutput 22 rfl) ?_
    refine hz_puti (pc := 38) (hz_dec kX2_addOutput 23 rfl) fo_X2_32 ft_X2_4 (hz_mne (hz_mne hO (by omega)) (by omega)) (by omega) (by omega) (Nat.le_of_ble_eq_true rfl) ?_
    refine hz_mem (pc := 41) (M2 := (va_up (va_up (va_up M 43 (.inl (2, 4, .inr (.inl (vp_updL f4 (lo.length) (am)))))) 44 (.inl (2, 4, .inr (.inl (vp_updL f5 (lo.length) (ad)))))) 39 (.inr (2, [.int (nI (li.length)), .ref 40, .ref 41, .ref 42, .int (nI ((lo.length) + 1)), .ref 43, .ref 44])))) rfl ?_
    refine hz_aloadn (pc := 41) 0 (hz_dec kX2_addOutput 24 rfl) rfl ?_
    refine hz_get (pc := 42) (hz_dec kX2_addOutput 25 rfl) fo_X2_32 (va_up_self _ _ _) (by omega) (by omega) rfl ?_
    refine hz_iret (pc := 45) (hz_dec kX2_addOutput 26 rfl) rfl ⟨by rw [if_pos h1], rfl, (frS.upr (frS.upr (frS.up (by simp only [outS, and_true]; omega)) (by simp only [outS, and_true]; omega)) (by simp only [outS, and_true]; omega)), ?_⟩
    rw [if_pos h1]
    refine ⟨(va_up_self _ _ _).trans (by rw [List.length_append]; rfl), hl1, by rw [List.length_append]; exact h1, ⟨f1, f2, f3, (hz_mne (hz_mne (hz_mne g1 (by omega)) (by omega)) (by omega)), (hz_mne (hz_mne (hz_mne g2 (by omega)) (by omega)) (by omega)), (hz_mne (hz_mne (hz_mne g3 (by omega)) (by omega)) (by omega)), hX⟩, _, _, (hz_mne (hz_mne (va_up_self _ _ _) (by omega)) (by omega)), (hz_mne (va_up_self _ _ _) (by omega)), doX_app hY⟩
  · skip
    refine hz_bipush (pc := 8) (v := (-3)) (hz_dec kX2_addOutput 4 rfl) (by decide) ?_
    refine hz_iret (pc := 10) (hz_dec kX2_addOutput 5 rfl) rfl ⟨by rw [if_neg (by omega)], rfl, frS.rf, by rw [if_neg (by omega)]; exact hD⟩
set_option maxHeartbeats 4000000 in
set_option maxRecDepth 100000 in
theorem c_madI {κ : hz_C} {z : Nat} {M : hz_M} {B : Nat} (hO_ : md_O M B) (hE : mdE M B) (h8 : 8 ≤ B) (hz : B + 88 ≤ z) {li : List di_I} {lo : List do_O} (hD : mdfR M B li lo) {iD sd : Int64} {pl : Int32} : hz_Mt κ xX12_addInput 0 0 0 [.ref B, .long iD, .int pl, .long sd] z M (fun r z2 M2 => some (.int (if li.length < 4 then nI (li.length + 1) else -3)) = r ∧ z = z2 ∧ mfr B [96] [81, 82, 83] M M2 ∧ mdE M2 B ∧ mdfR M2 B (if li.length < 4 then li ++ [(iD, pl, sd)] else li) lo) := by
  refine hz_ent (lo := [(0, .ref B), (1, .long iD), (3, .int pl), (4, .long sd)]) (by decide) (Nat.le_of_ble_eq_true rfl) rfl ?_
  obtain ⟨fs, hO, hF⟩ := id hO_
  obtain ⟨k96, k100, hl1, hl2, hX, hY⟩ := id hD
  have g96 : fs[96]? = some (.int (nI li.length)) := (fdB_of hO 96).symm.trans k96
  have g100 : fs[100]? = some (.int (nI lo.length)) := (fdB_of hO 100).symm.trans k100
  refine hz_aloadn (pc := 0) 0 (hz_dec kX12_addInput 0 rfl) rfl ?_
  refine hz_get (pc := 1) (v := .int (nI (li.length))) (hz_dec kX12_addInput 1 rfl) fo_X12_682 hO h8 (by omega) g96 ?_
  refine hz_iconst (pc := 4) (v := nI 4) (hz_dec kX12_addInput 2 rfl) (by decide) ?_
  refine hz_n_ne (pc := 5) (tgt := 11) (hz_dec kX12_addInput 3 rfl) (by decide) (by omega) (by omega) (fun h1 => ?_) (fun h1 => ?_)
  · skip
    have h4 : li.length < 4 := by omega
    refine hz_aloadn (pc := 11) 0 (hz_dec kX12_addInput 6 rfl) rfl ?_
    refine hz_get (pc := 12) (v := .ref (B + 81)) (hz_dec kX12_addInput 7 rfl) fo_X12_264 hO h8 (by omega) (hF.2 97 (by decide) (by decide)) ?_
    refine hz_aloadn (pc := 15) 0 (hz_dec kX12_addInput 8 rfl) rfl ?_
    refine hz_get (pc := 16) (v := .int (nI (li.length))) (hz_dec kX12_addInput 9 rfl) fo_X12_682 hO h8 (by omega) g96 ?_
    refine hz_lloadn (pc := 19) 1 (hz_dec kX12_addInput 10 rfl) rfl ?_
    refine hz_last (pc := 20) (j := li.length) (hz_dec kX12_addInput 11 rfl) hE.a81 (by omega) (by omega) rfl (by omega) (by decide) ?_
    refine hz_aloadn (pc := 21) 0 (hz_dec kX12_addInput 12 rfl) rfl ?_
    refine hz_get (pc := 22) (v := .ref (B + 82)) (hz_dec kX12_addInput 13 rfl) fo_X12_267 (hz_mne hO (by omega)) h8 (by omega) (hF.2 98 (by decide) (by decide)) ?_
    refine hz_aloadn (pc := 25) 0 (hz_dec kX12_addInput 14 rfl) rfl ?_
    refine hz_get (pc := 26) (v := .int (nI (li.length))) (hz_dec kX12_addInput 15 rfl) fo_X12_682 (hz_mne hO (by omega)) h8 (by omega) g96 ?_
    refine hz_iloadn (pc := 29) 2 (hz_dec kX12_addInput 16 rfl) rfl ?_
    refine hz_iast (pc := 30) (j := li.length) (hz_dec kX12_addInput 17 rfl) (hz_mne hE.a82 (by omega)) (by omega) (by omega) rfl (by omega) (by decide) ?_
    refine hz_aloadn (pc := 31) 0 (hz_dec kX12_addInput 18 rfl) rfl ?_
    refine hz_get (pc := 32) (v := .ref (B + 83)) (hz_dec kX12_addInput 19 rfl) fo_X12_270 (hz_mne (hz_mne hO (by omega)) (by omega)) h8 (by omega) (hF.2 99 (by decide) (by decide)) ?_
    refine hz_aloadn (pc := 35) 0 (hz_dec kX12_addInput 20 rfl) rfl ?_
    refine hz_get (pc := 36) (v := .int (nI (li.length))) (hz_dec kX12_addInput 21 rfl) fo_X12_682 (hz_mne (hz_mne hO (by omega)) (by omega)) h8 (by omega) g96 ?_
    refine hz_lload (pc := 39) 3 (hz_dec kX12_addInput 22 rfl) rfl ?_
    refine hz_last (pc := 41) (j := li.length) (hz_dec kX12_addInput 23 rfl) (hz_mne (hz_mne hE.a83 (by omega)) (by omega)) (by omega) (by omega) rfl (by omega) (by decide) ?_
    refine hz_aloadn (pc := 42) 0 (hz_dec kX12_addInput 24 rfl) rfl ?_
    refine hz_dup (pc := 43) (hz_dec kX12_addInput 25 rfl) rfl ?_
    refine hz_get (pc := 44) (v := .int (nI (li.length))) (hz_dec kX12_addInput 26 rfl) fo_X12_682 (hz_mne (hz_mne (hz_mne hO (by omega)) (by omega)) (by omega)) h8 (by omega) g96 ?_
    refine hz_iconst (pc := 47) (v := nI 1) (hz_dec kX12_addInput 27 rfl) (by decide) ?_
    refine hz_addN (pc := 48) (hz_dec kX12_addInput 28 rfl) ?_
    refine hz_puti (pc := 49) (hz_dec kX12_addInput 29 rfl) fo_X12_682 ft_X12_96 (hz_mne (hz_mne (hz_mne hO (by omega)) (by omega)) (by omega)) h8 (by omega) (by rw [hF.1]; decide) ?_
    refine hz_aloadn (pc := 52) 0 (hz_dec kX12_addInput 30 rfl) rfl ?_
    refine hz_get (pc := 53) (v := .int (nI ((li.length) + 1))) (hz_dec kX12_addInput 31 rfl) fo_X12_682 (va_up_self _ _ _) h8 (by omega) (List.getElem?_set_self (by rw [hF.1]; decide)) ?_
    have hf1 : mfr B [96] [81, 82, 83] M (va_up (va_up (va_up (va_up M (B + 81) (.inl (2, 4, .inr (.inl (vp_updL (fL M B 81) (li.length) (iD)))))) (B + 82) (.inl (0, 4, .inl (upd (fA M B 82) (li.length) ((pl)))))) (B + 83) (.inl (2, 4, .inr (.inl (vp_updL (fL M B 83) (li.length) (sd)))))) B (.inr (12, (List.set fs 96 (.int (nI ((li.length) + 1))))))) := ((((mfr.rf ⟨fs, hO, hF⟩).upA (o := 81) rfl (by decide)).upA (o := 82) rfl (by decide)).upA (o := 83) rfl (by decide)).upO (k := 96) (hz_mne (hz_mne (hz_mne hO (by omega)) (by omega)) (by omega)) hF rfl rfl
    have p81 : (va_up (va_up (va_up (va_up M (B + 81) (.inl (2, 4, .inr (.inl (vp_updL (fL M B 81) (li.length) (iD)))))) (B + 82) (.inl (0, 4, .inl (upd (fA M B 82) (li.length) ((pl)))))) (B + 83) (.inl (2, 4, .inr (.inl (vp_updL (fL M B 83) (li.length) (sd)))))) B (.inr (12, (List.set fs 96 (.int (nI ((li.length) + 1))))))) (B + 81) = .inl (2, 4, .inr (.inl (vp_updL (fL M B 81) (li.length) (iD)))) := (hz_mne (hz_mne (hz_mne (va_up_self _ _ _) (by omega)) (by omega)) (by omega))
    have p82 : (va_up (va_up (va_up (va_up M (B + 81) (.inl (2, 4, .inr (.inl (vp_updL (fL M B 81) (li.length) (iD)))))) (B + 82) (.inl (0, 4, .inl (upd (fA M B 82) (li.length) ((pl)))))) (B + 83) (.inl (2, 4, .inr (.inl (vp_updL (fL M B 83) (li.length) (sd)))))) B (.inr (12, (List.set fs 96 (.int (nI ((li.length) + 1))))))) (B + 82) = .inl (0, 4, .inl (upd (fA M B 82) (li.length) ((pl)))) := (hz_mne (hz_mne (va_up_self _ _ _) (by omega)) (by omega))
    have p83 : (va_up (va_up (va_up (va_up M (B + 81) (.inl (2, 4, .inr (.inl (vp_updL (fL M B 81) (li.length) (iD)))))) (B + 82) (.inl (0, 4, .inl (upd (fA M B 82) (li.length) ((pl)))))) (B + 83) (.inl (2, 4, .inr (.inl (vp_updL (fL M B 83) (li.length) (sd)))))) B (.inr (12, (List.set fs 96 (.int (nI ((li.length) + 1))))))) (B + 83) = .inl (2, 4, .inr (.inl (vp_updL (fL M B 83) (li.length) (sd)))) := (hz_mne (va_up_self _ _ _) (by omega))
    refine hz_iret (pc := 56) (hz_dec kX12_addInput 32 rfl) rfl ⟨by rw [if_pos h4], rfl, hf1, (mdE.upL (mdE.upA (mdE.upL hE (by decide)) (by decide)) (by decide)).upO, ?_⟩
    rw [if_pos h4]
    refine ⟨by rw [fdB_of (va_up_self _ _ _), List.getElem?_set_self (by rw [hF.1]; decide), List.length_append]; rfl, (hf1.2.2 100 rfl).trans k100, by rw [List.length_append]; exact h4, hl2, ?_, ?_⟩
    · rw [fL_of p81, fA_of p82, fL_of p83]; exact diX_app hX
    · rw [fL_c (hf1.at 84 (by decide) rfl), fL_c (hf1.at 85 (by decide) rfl)]; exact hY
  · skip
    refine hz_bipush (pc := 8) (v := (-3)) (hz_dec kX12_addInput 4 rfl) (by decide) ?_
    refine hz_iret (pc := 10) (hz_dec kX12_addInput 5 rfl) rfl ⟨by rw [if_neg (by omega)], rfl, mfr.rf hO_, hE, by rw [if_neg (by omega)]; exact hD⟩
