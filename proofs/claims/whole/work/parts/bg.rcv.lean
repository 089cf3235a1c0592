/-! a block, a transaction comes: the reference -/
set_option maxHeartbeats 4000000 in
set_option maxRecDepth 100000 in
theorem c_iTB_l {κ : hz_C} {z : Nat} {M0 : hz_M} {B : Nat} (hO_ : md_O M0 B) (hE0 : mdE M0 B) (h8 : 8 ≤ B) (hz : B + 88 ≤ z) {l : by_L} (hl4 : l.length ≤ 4000) (hA0 : isA (fA M0 B 78) 0 l) (hs0 : fdB M0 B 92 = some (.int (nI l.length))) : ∀ k i M, k = l.length - i → i ≤ l.length → mfr B [39] [35] M0 M → mdE M B → fdB M B 39 = some (.int (nI l.length)) → (∀ j, j < i → fA M B 35 j = lf l j) → hz_W κ xX12_inboxToBody 0 0 0 (fun r z2 M2 => none = r ∧ z = z2 ∧ mfr B [39] [35] M0 M2 ∧ mdE M2 B ∧ isA (fA M2 B 35) 0 l ∧ fdB M2 B 39 = some (.int (nI l.length))) 0 0 10 [(1, .int (nI i)), (0, .ref B)] [] z M := by
  intro k
  induction k using Nat.strongRecOn with
  | ind k ih =>
  intro i M hk hi hfr hE hfd hd
  obtain ⟨fs, hO, hF⟩ := id hfr.2.1
  have gd : fs[39]? = some (.int (nI l.length)) := (fdB_of hO 39).symm.trans hfd
  have gs : fs[92]? = some (.int (nI l.length)) := (fdB_of hO 92).symm.trans ((hfr.2.2 92 rfl).trans hs0)
  have hA : isA (fA M B 78) 0 l := by rw [fA_m hfr (by decide) rfl]; exact hA0
  refine hz_bytes hE.a78 (by omega) (by omega) (fun hby => ?_)
  refine hz_iloadn (pc := 10) 0 (hz_dec kX12_inboxToBody 6 rfl) rfl ?_
  refine hz_aloadn (pc := 11) 1 (hz_dec kX12_inboxToBody 7 rfl) rfl ?_
  refine hz_get (pc := 12) (v := .int (nI (l.length))) (hz_dec kX12_inboxToBody 8 rfl) fo_X12_637 hO h8 (by omega) gs ?_
  refine hz_n_ge (pc := 15) (tgt := 36) (hz_dec kX12_inboxToBody 9 rfl) (by decide) (by omega) (by omega) (fun h1 => ?_) (fun h1 => ?_)
  · skip
    have e : i = l.length := by omega
    exact hz_vret (pc := 36) (hz_dec kX12_inboxToBody 20 rfl) rfl ⟨rfl, rfl, hfr, hE, fun j hj => by rw [Nat.zero_add]; exact hd j (by omega), hfd⟩
  · skip
    refine hz_aloadn (pc := 18) 1 (hz_dec kX12_inboxToBody 10 rfl) rfl ?_
    refine hz_get (pc := 19) (v := .ref (B + 35)) (hz_dec kX12_inboxToBody 11 rfl) fo_X12_116 hO h8 (by omega) (hF.2 38 (by decide) (by decide)) ?_
    refine hz_iloadn (pc := 22) 0 (hz_dec kX12_inboxToBody 12 rfl) rfl ?_
    refine hz_aloadn (pc := 23) 1 (hz_dec kX12_inboxToBody 13 rfl) rfl ?_
    refine hz_get (pc := 24) (v := .ref (B + 78)) (hz_dec kX12_inboxToBody 14 rfl) fo_X12_255 hO h8 (by omega) (hF.2 91 (by decide) (by decide)) ?_
    refine hz_iloadn (pc := 27) 0 (hz_dec kX12_inboxToBody 15 rfl) rfl ?_
    refine hz_bald (pc := 28) (j := i) (hz_dec kX12_inboxToBody 16 rfl) hE.a78 (by omega) (by omega) rfl (by omega) (by decide) ?_
    refine hz_bast (pc := 29) (j := i) (hz_dec kX12_inboxToBody 17 rfl) hE.a35 (by omega) (by omega) rfl (by omega) (by decide) ?_
    refine hz_incN (pc := 30) (i := 1) (lo2 := [(1, .int (nI (i + 1))), (0, .ref B)]) 0 (hz_dec kX12_inboxToBody 18 rfl) rfl (by decide) rfl ?_
    refine hz_goto (pc := 33) (tgt := 10) (hz_dec kX12_inboxToBody 19 rfl) (by decide) ?_
    refine hz_pick (pc := 10) [0, 1] rfl ?_
    refine ih (l.length - (i + 1)) (by omega) (i + 1) _ rfl (by omega) (hfr.upA (o := 35) rfl (by decide)) (hE.upA (by decide)) ?_ ?_
    · rw [fdB_of (hz_mne hO (by omega))]; exact gd
    · rw [fA_of (va_up_self _ _ _)]
      intro q hq
      rcases (show q = i ∨ q < i by omega) with e | c
      · rw [e, upd_s, hby _ (by omega)]; have r := hA i h1; rw [Nat.zero_add] at r; exact r
      · rw [upd_o (by omega)]; exact hd q c
set_option maxHeartbeats 4000000 in
set_option maxRecDepth 100000 in
theorem c_iTB {κ : hz_C} {z : Nat} {M : hz_M} {B : Nat} (hO_ : md_O M B) (hE0 : mdE M B) (h8 : 8 ≤ B) (hz : B + 88 ≤ z) {l : by_L} (hl4 : l.length ≤ 4000) (hA0 : isA (fA M B 78) 0 l) (hs0 : fdB M B 92 = some (.int (nI l.length))) : hz_Mt κ xX12_inboxToBody 0 0 0 [.ref B] z M (fun r z2 M2 => none = r ∧ z = z2 ∧ mfr B [39] [35] M M2 ∧ mdE M2 B ∧ isA (fA M2 B 35) 0 l ∧ fdB M2 B 39 = some (.int (nI l.length))) := by
  refine hz_ent (lo := [(0, .ref B)]) (by decide) (Nat.le_of_ble_eq_true rfl) rfl ?_
  obtain ⟨fs, hO, hF⟩ := id hO_
  have gs : fs[92]? = some (.int (nI l.length)) := (fdB_of hO 92).symm.trans hs0
  refine hz_aloadn (pc := 0) 0 (hz_dec kX12_inboxToBody 0 rfl) rfl ?_
  refine hz_aloadn (pc := 1) 0 (hz_dec kX12_inboxToBody 1 rfl) rfl ?_
  refine hz_get (pc := 2) (v := .int (nI (l.length))) (hz_dec kX12_inboxToBody 2 rfl) fo_X12_637 hO h8 (by omega) gs ?_
  refine hz_puti (pc := 5) (hz_dec kX12_inboxToBody 3 rfl) fo_X12_422 ft_X12_39 hO h8 (by omega) (by rw [hF.1]; decide) ?_
  refine hz_iconst (pc := 8) (v := nI 0) (hz_dec kX12_inboxToBody 4 rfl) (by decide) ?_
  refine hz_istoren (pc := 9) (i := 1) (lo2 := [(1, .int (nI 0)), (0, .ref B)]) (hz_dec kX12_inboxToBody 5 rfl) rfl (by decide) rfl ?_
  refine hz_pick (pc := 10) [0, 1] rfl ?_
  exact c_iTB_l hO_ hE0 h8 hz hl4 hA0 hs0 l.length 0 _ rfl (Nat.zero_le _) ((mfr.rf ⟨fs, hO, hF⟩).upO (k := 39) hO hF rfl rfl) hE0.upO (by rw [fdB_of (va_up_self _ _ _), List.getElem?_set_self (by rw [hF.1]; decide)]) (fun j hj => absurd hj (by omega))
set_option maxHeartbeats 4000000 in
set_option maxRecDepth 100000 in
theorem c_tTI_l {κ : hz_C} {z : Nat} {M0 : hz_M} {B : Nat} (hO_ : md_O M0 B) (hE0 : mdE M0 B) (h8 : 8 ≤ B) (hz : B + 88 ≤ z) {l : by_L} (hl4 : l.length ≤ 4000) (hA0 : isA (fA M0 B 80) 0 l) (hs0 : fdB M0 B 95 = some (.int (nI l.length))) : ∀ k i M, k = l.length - i → i ≤ l.length → mfr B [92] [78] M0 M → mdE M B → fdB M B 92 = some (.int (nI l.length)) → (∀ j, j < i → fA M B 78 j = lf l j) → hz_W κ xX12_tapeToInbox 0 0 0 (fun r z2 M2 => none = r ∧ z = z2 ∧ mfr B [92] [78] M0 M2 ∧ mdE M2 B ∧ isA (fA M2 B 78) 0 l ∧ fdB M2 B 92 = some (.int (nI l.length))) 0 0 10 [(1, .int (nI i)), (0, .ref B)] [] z M := by
  intro k
  induction k using Nat.strongRecOn with
  | ind k ih =>
  intro i M hk hi hfr hE hfd hd
  obtain ⟨fs, hO, hF⟩ := id hfr.2.1
  have gd : fs[92]? = some (.int (nI l.length)) := (fdB_of hO 92).symm.trans hfd
  have gs : fs[95]? = some (.int (nI l.length)) := (fdB_of hO 95).symm.trans ((hfr.2.2 95 rfl).trans hs0)
  have hA : isA (fA M B 80) 0 l := by rw [fA_m hfr (by decide) rfl]; exact hA0
  refine hz_bytes hE.a80 (by omega) (by omega) (fun hby => ?_)
  refine hz_iloadn (pc := 10) 0 (hz_dec kX12_tapeToInbox 6 rfl) rfl ?_
  refine hz_aloadn (pc := 11) 1 (hz_dec kX12_tapeToInbox 7 rfl) rfl ?_
  refine hz_get (pc := 12) (v := .int (nI (l.length))) (hz_dec kX12_tapeToInbox 8 rfl) fo_X12_679 hO h8 (by omega) gs ?_
  refine hz_n_ge (pc := 15) (tgt := 36) (hz_dec kX12_tapeToInbox 9 rfl) (by decide) (by omega) (by omega) (fun h1 => ?_) (fun h1 => ?_)
  · skip
    have e : i = l.length := by omega
    exact hz_vret (pc := 36) (hz_dec kX12_tapeToInbox 20 rfl) rfl ⟨rfl, rfl, hfr, hE, fun j hj => by rw [Nat.zero_add]; exact hd j (by omega), hfd⟩
  · skip
    refine hz_aloadn (pc := 18) 1 (hz_dec kX12_tapeToInbox 10 rfl) rfl ?_
    refine hz_get (pc := 19) (v := .ref (B + 78)) (hz_dec kX12_tapeToInbox 11 rfl) fo_X12_255 hO h8 (by omega) (hF.2 91 (by decide) (by decide)) ?_
    refine hz_iloadn (pc := 22) 0 (hz_dec kX12_tapeToInbox 12 rfl) rfl ?_
    refine hz_aloadn (pc := 23) 1 (hz_dec kX12_tapeToInbox 13 rfl) rfl ?_
    refine hz_get (pc := 24) (v := .ref (B + 80)) (hz_dec kX12_tapeToInbox 14 rfl) fo_X12_261 hO h8 (by omega) (hF.2 94 (by decide) (by decide)) ?_
    refine hz_iloadn (pc := 27) 0 (hz_dec kX12_tapeToInbox 15 rfl) rfl ?_
    refine hz_bald (pc := 28) (j := i) (hz_dec kX12_tapeToInbox 16 rfl) hE.a80 (by omega) (by omega) rfl (by omega) (by decide) ?_
    refine hz_bast (pc := 29) (j := i) (hz_dec kX12_tapeToInbox 17 rfl) hE.a78 (by omega) (by omega) rfl (by omega) (by decide) ?_
    refine hz_incN (pc := 30) (i := 1) (lo2 := [(1, .int (nI (i + 1))), (0, .ref B)]) 0 (hz_dec kX12_tapeToInbox 18 rfl) rfl (by decide) rfl ?_
    refine hz_goto (pc := 33) (tgt := 10) (hz_dec kX12_tapeToInbox 19 rfl) (by decide) ?_
    refine hz_pick (pc := 10) [0, 1] rfl ?_
    refine ih (l.length - (i + 1)) (by omega) (i + 1) _ rfl (by omega) (hfr.upA (o := 78) rfl (by decide)) (hE.upA (by decide)) ?_ ?_
    · rw [fdB_of (hz_mne hO (by omega))]; exact gd
    · rw [fA_of (va_up_self _ _ _)]
      intro q hq
      rcases (show q = i ∨ q < i by omega) with e | c
      · rw [e, upd_s, hby _ (by omega)]; have r := hA i h1; rw [Nat.zero_add] at r; exact r
      · rw [upd_o (by omega)]; exact hd q c
set_option maxHeartbeats 4000000 in
set_option maxRecDepth 100000 in
theorem c_tTI {κ : hz_C} {z : Nat} {M : hz_M} {B : Nat} (hO_ : md_O M B) (hE0 : mdE M B) (h8 : 8 ≤ B) (hz : B + 88 ≤ z) {l : by_L} (hl4 : l.length ≤ 4000) (hA0 : isA (fA M B 80) 0 l) (hs0 : fdB M B 95 = some (.int (nI l.length))) : hz_Mt κ xX12_tapeToInbox 0 0 0 [.ref B] z M (fun r z2 M2 => none = r ∧ z = z2 ∧ mfr B [92] [78] M M2 ∧ mdE M2 B ∧ isA (fA M2 B 78) 0 l ∧ fdB M2 B 92 = some (.int (nI l.length))) := by
  refine hz_ent (lo := [(0, .ref B)]) (by decide) (Nat.le_of_ble_eq_true rfl) rfl ?_
  obtain ⟨fs, hO, hF⟩ := id hO_
  have gs : fs[95]? = some (.int (nI l.length)) := (fdB_of hO 95).symm.trans hs0
  refine hz_aloadn (pc := 0) 0 (hz_dec kX12_tapeToInbox 0 rfl) rfl ?_
  refine hz_aloadn (pc := 1) 0 (hz_dec kX12_tapeToInbox 1 rfl) rfl ?_
  refine hz_get (pc := 2) (v := .int (nI (l.length))) (hz_dec kX12_tapeToInbox 2 rfl) fo_X12_679 hO h8 (by omega) gs ?_
  refine hz_puti (pc := 5) (hz_dec kX12_tapeToInbox 3 rfl) fo_X12_637 ft_X12_92 hO h8 (by omega) (by rw [hF.1]; decide) ?_
  refine hz_iconst (pc := 8) (v := nI 0) (hz_dec kX12_tapeToInbox 4 rfl) (by decide) ?_
  refine hz_istoren (pc := 9) (i := 1) (lo2 := [(1, .int (nI 0)), (0, .ref B)]) (hz_dec kX12_tapeToInbox 5 rfl) rfl (by decide) rfl ?_
  refine hz_pick (pc := 10) [0, 1] rfl ?_
  exact c_tTI_l hO_ hE0 h8 hz hl4 hA0 hs0 l.length 0 _ rfl (Nat.zero_le _) ((mfr.rf ⟨fs, hO, hF⟩).upO (k := 92) hO hF rfl rfl) hE0.upO (by rw [fdB_of (va_up_self _ _ _), List.getElem?_set_self (by rw [hF.1]; decide)]) (fun j hj => absurd hj (by omega))
set_option maxHeartbeats 4000000 in
set_option maxRecDepth 100000 in
theorem c_bTT_l {κ : hz_C} {z : Nat} {M0 : hz_M} {B : Nat} (hO_ : md_O M0 B) (hE0 : mdE M0 B) (h8 : 8 ≤ B) (hz : B + 88 ≤ z) {l : by_L} (hl4 : l.length ≤ 4000) (hA0 : isA (fA M0 B 35) 0 l) (hs0 : fdB M0 B 39 = some (.int (nI l.length))) : ∀ k i M, k = l.length - i → i ≤ l.length → mfr B [95] [80] M0 M → mdE M B → fdB M B 95 = some (.int (nI l.length)) → (∀ j, j < i → fA M B 80 j = lf l j) → hz_W κ xX12_bodyToTape 0 0 0 (fun r z2 M2 => none = r ∧ z = z2 ∧ mfr B [95] [80] M0 M2 ∧ mdE M2 B ∧ isA (fA M2 B 80) 0 l ∧ fdB M2 B 95 = some (.int (nI l.length))) 0 0 10 [(1, .int (nI i)), (0, .ref B)] [] z M := by
  intro k
  induction k using Nat.strongRecOn with
  | ind k ih =>
  intro i M hk hi hfr hE hfd hd
  obtain ⟨fs, hO, hF⟩ := id hfr.2.1
  have gd : fs[95]? = some (.int (nI l.length)) := (fdB_of hO 95).symm.trans hfd
  have gs : fs[39]? = some (.int (nI l.length)) := (fdB_of hO 39).symm.trans ((hfr.2.2 39 rfl).trans hs0)
  have hA : isA (fA M B 35) 0 l := by rw [fA_m hfr (by decide) rfl]; exact hA0
  refine hz_bytes hE.a35 (by omega) (by omega) (fun hby => ?_)
  refine hz_iloadn (pc := 10) 0 (hz_dec kX12_bodyToTape 6 rfl) rfl ?_
  refine hz_aloadn (pc := 11) 1 (hz_dec kX12_bodyToTape 7 rfl) rfl ?_
  refine hz_get (pc := 12) (v := .int (nI (l.length))) (hz_dec kX12_bodyToTape 8 rfl) fo_X12_679 hO h8 (by omega) gd ?_
  refine hz_n_ge (pc := 15) (tgt := 36) (hz_dec kX12_bodyToTape 9 rfl) (by decide) (by omega) (by omega) (fun h1 => ?_) (fun h1 => ?_)
  · skip
    have e : i = l.length := by omega
    exact hz_vret (pc := 36) (hz_dec kX12_bodyToTape 20 rfl) rfl ⟨rfl, rfl, hfr, hE, fun j hj => by rw [Nat.zero_add]; exact hd j (by omega), hfd⟩
  · skip
    refine hz_aloadn (pc := 18) 1 (hz_dec kX12_bodyToTape 10 rfl) rfl ?_
    refine hz_get (pc := 19) (v := .ref (B + 80)) (hz_dec kX12_bodyToTape 11 rfl) fo_X12_261 hO h8 (by omega) (hF.2 94 (by decide) (by decide)) ?_
    refine hz_iloadn (pc := 22) 0 (hz_dec kX12_bodyToTape 12 rfl) rfl ?_
    refine hz_aloadn (pc := 23) 1 (hz_dec kX12_bodyToTape 13 rfl) rfl ?_
    refine hz_get (pc := 24) (v := .ref (B + 35)) (hz_dec kX12_bodyToTape 14 rfl) fo_X12_116 hO h8 (by omega) (hF.2 38 (by decide) (by decide)) ?_
    refine hz_iloadn (pc := 27) 0 (hz_dec kX12_bodyToTape 15 rfl) rfl ?_
    refine hz_bald (pc := 28) (j := i) (hz_dec kX12_bodyToTape 16 rfl) hE.a35 (by omega) (by omega) rfl (by omega) (by decide) ?_
    refine hz_bast (pc := 29) (j := i) (hz_dec kX12_bodyToTape 17 rfl) hE.a80 (by omega) (by omega) rfl (by omega) (by decide) ?_
    refine hz_incN (pc := 30) (i := 1) (lo2 := [(1, .int (nI (i + 1))), (0, .ref B)]) 0 (hz_dec kX12_bodyToTape 18 rfl) rfl (by decide) rfl ?_
    refine hz_goto (pc := 33) (tgt := 10) (hz_dec kX12_bodyToTape 19 rfl) (by decide) ?_
    refine hz_pick (pc := 10) [0, 1] rfl ?_
    refine ih (l.length - (i + 1)) (by omega) (i + 1) _ rfl (by omega) (hfr.upA (o := 80) rfl (by decide)) (hE.upA (by decide)) ?_ ?_
    · rw [fdB_of (hz_mne hO (by omega))]; exact gd
    · rw [fA_of (va_up_self _ _ _)]
      intro q hq
      rcases (show q = i ∨ q < i by omega) with e | c
      · rw [e, upd_s, hby _ (by omega)]; have r := hA i h1; rw [Nat.zero_add] at r; exact r
      · rw [upd_o (by omega)]; exact hd q c
set_option maxHeartbeats 4000000 in
set_option maxRecDepth 100000 in
theorem c_bTT {κ : hz_C} {z : Nat} {M : hz_M} {B : Nat} (hO_ : md_O M B) (hE0 : mdE M B) (h8 : 8 ≤ B) (hz : B + 88 ≤ z) {l : by_L} (hl4 : l.length ≤ 4000) (hA0 : isA (fA M B 35) 0 l) (hs0 : fdB M B 39 = some (.int (nI l.length))) : hz_Mt κ xX12_bodyToTape 0 0 0 [.ref B] z M (fun r z2 M2 => none = r ∧ z = z2 ∧ mfr B [95] [80] M M2 ∧ mdE M2 B ∧ isA (fA M2 B 80) 0 l ∧ fdB M2 B 95 = some (.int (nI l.length))) := by
  refine hz_ent (lo := [(0, .ref B)]) (by decide) (Nat.le_of_ble_eq_true rfl) rfl ?_
  obtain ⟨fs, hO, hF⟩ := id hO_
  have gs : fs[39]? = some (.int (nI l.length)) := (fdB_of hO 39).symm.trans hs0
  refine hz_aloadn (pc := 0) 0 (hz_dec kX12_bodyToTape 0 rfl) rfl ?_
  refine hz_aloadn (pc := 1) 0 (hz_dec kX12_bodyToTape 1 rfl) rfl ?_
  refine hz_get (pc := 2) (v := .int (nI (l.length))) (hz_dec kX12_bodyToTape 2 rfl) fo_X12_422 hO h8 (by omega) gs ?_
  refine hz_puti (pc := 5) (hz_dec kX12_bodyToTape 3 rfl) fo_X12_679 ft_X12_95 hO h8 (by omega) (by rw [hF.1]; decide) ?_
  refine hz_iconst (pc := 8) (v := nI 0) (hz_dec kX12_bodyToTape 4 rfl) (by decide) ?_
  refine hz_istoren (pc := 9) (i := 1) (lo2 := [(1, .int (nI 0)), (0, .ref B)]) (hz_dec kX12_bodyToTape 5 rfl) rfl (by decide) rfl ?_
  refine hz_pick (pc := 10) [0, 1] rfl ?_
  exact c_bTT_l hO_ hE0 h8 hz hl4 hA0 hs0 l.length 0 _ rfl (Nat.zero_le _) ((mfr.rf ⟨fs, hO, hF⟩).upO (k := 95) hO hF rfl rfl) hE0.upO (by rw [fdB_of (va_up_self _ _ _), List.getElem?_set_self (by rw [hF.1]; decide)]) (fun j hj => absurd hj (by omega))
set_option maxHeartbeats 4000000 in
set_option maxRecDepth 100000 in
theorem c_rcvB {κ : hz_C} {z B nn v : Nat} {now fr : Int32} {dl : Nat → Nat} (hnn : nn ≤ 6) (hvn : v < nn) {d : Nat} (hto : (∃ b, b < 6 ∧ fr = nI b ∧ d = dl (6 * v + b)) ∨ (fr < 0 ∧ d = 0)) {M : hz_M} {S : ks_S} {l : by_L} (hk0 : md_k B M z) (hE : mdE M B) (hmg : mgR M B nn now dl (ksQ S)) (hmn : mnS M B v 1 S (pvI (ksF S)) (ksP S)) (hor : orX (fA M B) v (mkO (ksL S))) (hI : ksI S) (hl4 : l.length ≤ 4000) (h78 : isA (fA M B 78) 0 l) (h92 : fdB M B 92 = some (.int (nI l.length))) : hz_Mt κ xX12_receiveBlock 22 0 0 [.ref B, .int (nI v), .int fr] z M (fun r z2 M2 => some (.int (nI (ksJ S l))) = r ∧ z = z2 ∧ mfr B [16, 39, 53, 54, 55, 59, 61, 86, 87, 88] [3, 4, 5, 6, 7, 8, 9, 10, 11, 12, 13, 14, 15, 16, 17, 18, 19, 20, 21, 23, 24, 25, 26, 27, 28, 29, 30, 31, 32, 33, 35, 36, 42, 43, 44, 45, 46, 47, 48, 49, 50, 51, 52, 53, 54, 55, 56, 57, 58, 59, 60, 61, 62, 63, 64, 65, 66, 67, 68, 70, 71, 72, 73, 74, 75, 76, 77] M M2 ∧ mdE M2 B ∧ agV M M2 B v ∧ cvW M M2 B v ∧ mgR M2 B nn now dl (ksQ (tkB nn dl now v fr d S l).1) ∧ fA M2 B 23 v = (if ksJ S l = 1 then fA M B 23 v + 1 else fA M B 23 v) ∧ ((tkB nn dl now v fr d S l).2.1 = true → mnS M2 B v 1 (tkB nn dl now v fr d S l).1 (pvI (ksF (tkB nn dl now v fr d S l).1)) (ksP (tkB nn dl now v fr d S l).1) ∧ orX (fA M2 B) v (mkO (ksL (tkB nn dl now v fr d S l).1))) ∧ ((tkB nn dl now v fr d S l).2.1 = false → mnS M2 B v 0 (tkB nn dl now v fr d S l).1 (-1) [] ∧ orX (fA M2 B) v [])) := by
  refine hz_ent (lo := [(0, .ref B), (1, .int (nI v)), (2, .int fr)]) (by decide) (Nat.le_of_ble_eq_true rfl) rfl ?_
  obtain ⟨⟨fs, hO, hF⟩, -, -, h8, hz⟩ := id hk0
  obtain ⟨i1, i2, i3, i4, i5⟩ := id hI
  have htop := i1.top
  have hv6 : v < 6 := by omega
  have hv9 := ksJ_lt S l
  refine hz_aloadn (pc := 0) 0 (hz_dec kX12_receiveBlock 0 rfl) rfl ?_
  refine hz_callV (pc := 1) (a := B) (As := []) (st := []) (hz_dec kX12_receiveBlock 1 rfl) co_X12_670 im_X12_inboxToBody se_X12_inboxToBody rfl hO h8 (by omega) (c_iTB ⟨fs, hO, hF⟩ hE h8 hz hl4 h78 h92) rfl (by omega) ⟨Nat.le_refl _, Nat.le_refl _⟩ (Nat.le_of_ble_eq_true rfl) rfl (fun r9 z9 M1 hp9 => ?_)
  obtain ⟨rfl, rfl, hf1, hE1, h351, h391⟩ := hp9
  obtain ⟨fs1, hO1, hF1⟩ := id hf1.2.1
  have hk1 : md_k B M1 z := hk0.mf hf1 rfl rfl
  have hmn1 := hmn.mf hf1 rfl rfl
  have hmg1 := hmg.mf hf1 rfl rfl
  have hor1 := hor.mf hf1 rfl
  obtain ⟨m16, m17, m18, m19, mnb, mpo, mcv, mpl⟩ := id hmn1
  refine hz_aloadn (pc := 4) 0 (hz_dec kX12_receiveBlock 2 rfl) rfl ?_
  refine hz_iloadn (pc := 5) 1 (hz_dec kX12_receiveBlock 3 rfl) rfl ?_
  refine hz_iconst (pc := 6) (v := nI 1) (hz_dec kX12_receiveBlock 4 rfl) (by decide) ?_
  have qj := c_jBod2 (κ := κ) (od := true) hk1 hE1 h351 (by omega) h391 hv6 (by omega) (by rw [enB_len]; exact Nat.le_refl _) (by rw [enB_len]; omega) mnb.1 mnb.2.1 i1.2.2.2.2.1 i1.2.2.2.2.2.1 mnb.2.2 (fun k hk => (i1.cb hk).1) (fun k hk => (i1.cb hk).2) mcv m18 (by omega)
  refine hz_callV (pc := 7) (a := B) (As := [.int (nI v), .int (nI 1)]) (st := []) (hz_dec kX12_receiveBlock 5 rfl) co_X12_603 im_X12_judgeBody se_X12_judgeBody rfl hO1 h8 (by omega) (qj) rfl (by omega) ⟨Nat.le_refl _, Nat.le_refl _⟩ (Nat.le_of_ble_eq_true rfl) rfl (fun r9 z9 M3 hp9 => ?_)
  obtain ⟨rfl, rfl, hf3, hE3, hcv3, hh3, hz3⟩ := hp9
  refine hz_eqi (pc := 10) (show _ = nI (ksJ S l) from rfl) ?_
  have hcvv : cvX M3 B v (ksB S) (enB (ksB S)) := hcv3 v _ _ hv6 (fun _ => ⟨rfl, rfl⟩) mcv
  have hmn3 := hmn1.mv hf3 hcvv rfl
  have hmg3 := hmg1.mf hf3 rfl rfl
  have hor3 := hor1.mf hf3 rfl
  have hk3 : md_k B M3 z := hk1.mf hf3 rfl rfl
  obtain ⟨fs3, hO3, hF3⟩ := id hf3.2.1
  have hfr3 : mfr B [16, 39, 53, 54, 55, 59, 61, 86, 87, 88] [3, 4, 5, 6, 7, 8, 9, 10, 11, 12, 13, 14, 15, 16, 17, 18, 19, 20, 21, 23, 24, 25, 26, 27, 28, 29, 30, 31, 32, 33, 35, 36, 42, 43, 44, 45, 46, 47, 48, 49, 50, 51, 52, 53, 54, 55, 56, 57, 58, 59, 60, 61, 62, 63, 64, 65, 66, 67, 68, 70, 71, 72, 73, 74, 75, 76, 77] M M3 := (hf1.mono rfl rfl).tr (hf3.mono rfl rfl)
  have hag3 : agV M M3 B v := (agV.mf hf1 rfl rfl).tr (agV.mf hf3 rfl rfl)
  have hcw3 : cvW M M3 B v := (cvK.mf (bl := ksB S) (en := enB (ksB S)) hf1 rfl rfl rfl rfl).w.tr hcv3.w
  have e23 : fA M3 B 23 = fA M B 23 := (fA_m hf3 (by decide) rfl).trans (fA_m hf1 (by decide) rfl)
  have hjx : jBk (ksB S) (enB (ksB S)) l (nrB (ksN S) l.length true) = ksJ S l := rfl
  refine hz_istoren (pc := 10) (i := 3) (lo2 := [(3, .int (nI (ksJ S l))), (0, .ref B), (1, .int (nI v)), (2, .int fr)]) (hz_dec kX12_receiveBlock 6 rfl) rfl (by decide) rfl ?_
  refine hz_iloadn (pc := 11) 0 (hz_dec kX12_receiveBlock 7 rfl) rfl ?_
  refine hz_z_ne (pc := 12) (tgt := 29) (hz_dec kX12_receiveBlock 8 rfl) (by decide) (by omega) (fun h1 => ?_) (fun h1 => ?_)
  · skip
    refine hz_iloadn (pc := 29) 0 (hz_dec kX12_receiveBlock 17 rfl) rfl ?_
    refine hz_bipush (pc := 30) (v := nI 6) (hz_dec kX12_receiveBlock 18 rfl) (by decide) ?_
    refine hz_n_ne (pc := 32) (tgt := 52) (hz_dec kX12_receiveBlock 19 rfl) (by decide) (by omega) (by omega) (fun h2 => ?_) (fun h2 => ?_)
    · skip
      refine hz_iloadn (pc := 52) 0 (hz_dec kX12_receiveBlock 29 rfl) rfl ?_
      refine hz_iconst (pc := 53) (v := nI 1) (hz_dec kX12_receiveBlock 30 rfl) (by decide) ?_
      refine hz_n_ne (pc := 54) (tgt := 67) (hz_dec kX12_receiveBlock 31 rfl) (by decide) (by omega) (by omega) (fun h3 => ?_) (fun h3 => ?_)
      · skip
        have eT : (tkB nn dl now v fr d S l) = (S, true, nI (ksJ S l)) := by unfold tkB; rw [if_neg (by omega), if_neg (by omega)]
        refine hz_iloadn (pc := 67) 0 (hz_dec kX12_receiveBlock 40 rfl) rfl ?_
        exact hz_iret (pc := 68) (hz_dec kX12_receiveBlock 41 rfl) rfl ⟨rfl, rfl, hfr3, hE3, hag3, hcw3, (by rw [eT]; exact hmg3), (by rw [if_neg (by omega), e23]), (fun _ => by rw [eT]; exact ⟨hmn3, hor3⟩), (fun q9 => by rw [eT] at q9; cases q9)⟩
      · skip
        have eT : (tkB nn dl now v fr d S l) = (S, true, nI (ksJ S l)) := by unfold tkB; rw [if_neg (by omega), if_neg (by omega)]
        refine hz_aloadn (pc := 57) 1 (hz_dec kX12_receiveBlock 32 rfl) rfl ?_
        refine hz_get (pc := 58) (v := .ref (B + 23)) (hz_dec kX12_receiveBlock 33 rfl) fo_X12_80 hO3 h8 (by omega) (hF3.2 25 (by decide) (by decide)) ?_
        refine hz_iloadn (pc := 61) 2 (hz_dec kX12_receiveBlock 34 rfl) rfl ?_
        refine hz_dup2 (pc := 62) (hz_dec kX12_receiveBlock 35 rfl) rfl rfl ?_
        refine hz_iald (pc := 63) (j := v) (hz_dec kX12_receiveBlock 36 rfl) hE3.a23 (by omega) (by omega) rfl (by omega) (by decide) ?_
        refine hz_iconst (pc := 64) (v := nI 1) (hz_dec kX12_receiveBlock 37 rfl) (by decide) ?_
        refine hz_iadd (pc := 65) (hz_dec kX12_receiveBlock 38 rfl) ?_
        refine hz_iast (pc := 66) (j := v) (hz_dec kX12_receiveBlock 39 rfl) hE3.a23 (by omega) (by omega) rfl (by omega) (by decide) ?_
        refine hz_iloadn (pc := 67) 0 (hz_dec kX12_receiveBlock 40 rfl) rfl ?_
        have hm4 : mfr B [] [23] M3 (va_up M3 (B + 23) (.inl (0, 6, .inl (upd (fA M3 B 23) v ((((fA M3 B 23) v) + (nI (1)))))))) := (mfr.rf ⟨fs3, hO3, hF3⟩).upA (o := 23) rfl (by decide)
        have hg4 : agV M3 (va_up M3 (B + 23) (.inl (0, 6, .inl (upd (fA M3 B 23) v ((((fA M3 B 23) v) + (nI (1)))))))) B v := agV.rf.upA (s := 1) (by decide) (by decide) (fun x hx => upd_o (by omega))
        exact hz_iret (pc := 68) (hz_dec kX12_receiveBlock 41 rfl) rfl ⟨rfl, rfl, hfr3.tr (hm4.mono rfl rfl), hE3.upA (by decide), hag3.tr hg4, hcw3.tr (cvK.mf (bl := ksB S) (en := enB (ksB S)) hm4 rfl rfl rfl rfl).w, (by rw [eT]; exact hmg3.mf hm4 rfl rfl), (by rw [if_pos h3, fA_of (va_up_self _ _ _), upd_s, e23]; rfl), (fun _ => by rw [eT]; exact ⟨hmn3.mf hm4 rfl rfl, hor3.mf hm4 rfl⟩), (fun q9 => by rw [eT] at q9; cases q9)⟩
    · skip
      have eT : (tkB nn dl now v fr d S l) = (if isLo (ksL S) (haS l) = true then S else ksO S l (sd1 now (nI v) fr (nI 2) d (akT (ksB S) (enB (ksB S)) (ksT S)) (ksQ S)), true, nI 6) := by unfold tkB; rw [if_neg (by omega), if_pos h2]
      have hW : blW l := jBk_6 (bl := ksB S) (en := enB (ksB S)) (nr := nrB (ksN S) l.length true) (by omega)
      have hh6 := hh3 (by omega)
      have h353 : isA (fA M3 B 35) 0 l := by rw [fA_m hf3 (by decide) rfl]; exact h351
      have h393 := (hf3.2.2 39 rfl).trans h391
      refine hz_aloadn (pc := 35) 1 (hz_dec kX12_receiveBlock 20 rfl) rfl ?_
      refine hz_iloadn (pc := 36) 2 (hz_dec kX12_receiveBlock 21 rfl) rfl ?_
      refine hz_callV (pc := 37) (a := B) (As := [.int (nI v)]) (st := []) (hz_dec kX12_receiveBlock 22 rfl) co_X12_676 im_X12_addOrphan se_X12_addOrphan rfl hO3 h8 (by omega) (c_aO hf3.2.1 hE3 h8 hz hv6 hor3 i5 hW h353 h393 hh6) rfl (by omega) ⟨Nat.le_refl _, Nat.le_refl _⟩ (Nat.le_of_ble_eq_true rfl) rfl (fun r9 z9 M4 hp9 => ?_)
      obtain ⟨rfl, rfl, hf4, hE4, hag4, hor4⟩ := hp9
      have hmn4 := hmn3.mf hf4 rfl rfl
      have hmg4 := hmg3.mf hf4 rfl rfl
      obtain ⟨fs4, hO4, hF4⟩ := id hf4.2.1
      have hfr4 : mfr B [16, 39, 53, 54, 55, 59, 61, 86, 87, 88] [3, 4, 5, 6, 7, 8, 9, 10, 11, 12, 13, 14, 15, 16, 17, 18, 19, 20, 21, 23, 24, 25, 26, 27, 28, 29, 30, 31, 32, 33, 35, 36, 42, 43, 44, 45, 46, 47, 48, 49, 50, 51, 52, 53, 54, 55, 56, 57, 58, 59, 60, 61, 62, 63, 64, 65, 66, 67, 68, 70, 71, 72, 73, 74, 75, 76, 77] M M4 := hfr3.tr (hf4.mono rfl rfl)
      have hcw4 : cvW M M4 B v := hcw3.tr (cvK.mf (bl := ksB S) (en := enB (ksB S)) hf4 rfl rfl rfl rfl).w
      have e234 : fA M4 B 23 = fA M B 23 := (fA_m hf4 (by decide) rfl).trans e23
      refine hz_if_eq (pc := 40) (tgt := 67) (hz_dec kX12_receiveBlock 23 rfl) (by decide) (fun h4 => ?_) (fun h4 => ?_)
      · skip
        have eL : isLo (ksL S) (haS l) = true := by cases q : isLo (ksL S) (haS l) with
          | true => rfl
          | false => rw [q] at h4; exact absurd h4 (by decide)
        rw [if_pos eL] at eT
        have eA : loA (ksL S) l = ksL S := if_pos eL
        refine hz_iloadn (pc := 67) 0 (hz_dec kX12_receiveBlock 40 rfl) rfl ?_
        exact hz_iret (pc := 68) (hz_dec kX12_receiveBlock 41 rfl) rfl ⟨rfl, rfl, hfr4, hE4, hag3.tr hag4, hcw4, (by rw [eT]; exact hmg4), (by rw [if_neg (by omega), e234]), (fun _ => by rw [eT]; exact ⟨hmn4, by rw [← eA]; exact hor4⟩), (fun q9 => by rw [eT] at q9; cases q9)⟩
      · skip
        have eL : isLo (ksL S) (haS l) = false := by cases q : isLo (ksL S) (haS l) with
          | false => rfl
          | true => rw [q] at h4; exact absurd rfl h4
        rw [if_neg (by rw [eL]; decide)] at eT
        obtain ⟨p16, p17, p18, p19, pnb, ppo, pcv, ppl⟩ := id hmn4
        refine hz_aloadn (pc := 43) 1 (hz_dec kX12_receiveBlock 24 rfl) rfl ?_
        refine hz_iloadn (pc := 44) 2 (hz_dec kX12_receiveBlock 25 rfl) rfl ?_
        refine hz_iloadn (pc := 45) 3 (hz_dec kX12_receiveBlock 26 rfl) rfl ?_
        refine hz_callV (pc := 46) (a := B) (As := [.int (nI v), .int fr]) (st := []) (hz_dec kX12_receiveBlock 27 rfl) co_X12_661 im_X12_ask se_X12_ask rfl hO4 h8 (by omega) (c_ask (to_ := fr) hf4.2.1 hE4 h8 hz hv6 (by omega) pnb.2.1 (by rw [enB_len]; exact Nat.le_refl _) pnb.1 i1.2.2.2.2.1 i2 i1.2.2.2.2.2.2.1 hmg4.2.1 hmg4.2.2 hto htop.2.1) rfl (by omega) ⟨Nat.le_refl _, Nat.le_refl _⟩ (Nat.le_of_ble_eq_true rfl) rfl (fun r9 z9 M5 hp9 => ?_)
        obtain ⟨rfl, rfl, hf5, hE5, hQ5⟩ := hp9
        have hmg5 : mgR M5 B nn now dl (sd1 now (nI v) fr (nI 2) d (akT (ksB S) (enB (ksB S)) (ksT S)) (ksQ S)) := ⟨(hf5.2.2 1 rfl).trans hmg4.1, by unfold mdD; rw [fA_m hf5 (by decide) rfl]; exact hmg4.2.1, hQ5⟩
        refine hz_goto (pc := 49) (tgt := 67) (hz_dec kX12_receiveBlock 28 rfl) (by decide) ?_
        refine hz_iloadn (pc := 67) 0 (hz_dec kX12_receiveBlock 40 rfl) rfl ?_
        exact hz_iret (pc := 68) (hz_dec kX12_receiveBlock 41 rfl) rfl ⟨rfl, rfl, hfr4.tr (hf5.mono rfl rfl), hE5, (hag3.tr hag4).tr (agV.mf hf5 rfl rfl), hcw4.tr (cvK.mf (bl := ksB S) (en := enB (ksB S)) hf5 rfl rfl rfl rfl).w, (by rw [eT]; exact hmg5), (by rw [if_neg (by omega), fA_m hf5 (by decide) rfl, e234]), (fun _ => by rw [eT]; exact ⟨hmn4.mf hf5 rfl rfl, hor4.mf hf5 rfl⟩), (fun q9 => by rw [eT] at q9; cases q9)⟩
  · skip
    have hj0 : ksJ S l = 0 := by omega
    have eT : (tkB nn dl now v fr d S l) = ((kp nn dl now v fr 9 S l).1, (kp nn dl now v fr 9 S l).2, if (kp nn dl now v fr 9 S l).2 = true then nI 0 else -2) := by unfold tkB; rw [if_pos hj0]
    have hh0 := hh3 (by omega)
    have h610 := hz3 hj0
    have h353 : isA (fA M3 B 35) 0 l := by rw [fA_m hf3 (by decide) rfl]; exact h351
    have h393 := (hf3.2.2 39 rfl).trans h391
    refine hz_aloadn (pc := 15) 1 (hz_dec kX12_receiveBlock 9 rfl) rfl ?_
    refine hz_iloadn (pc := 16) 2 (hz_dec kX12_receiveBlock 10 rfl) rfl ?_
    refine hz_iloadn (pc := 17) 3 (hz_dec kX12_receiveBlock 11 rfl) rfl ?_
    have hq := c_store (κ := κ) (now := now) (but := fr) (dl := dl) h8 hz hnn hvn 9 S l M3 (mkO (ksL S)) hk3 hE3 hmg3 hmn3 hor3 (orW_mk i5) (st_mk _ _) (mkO_lo _).symm ⟨h353, h393, hh0, h610⟩ hI hj0 (by have q := i5.1; omega)
    refine hz_callV (pc := 18) (a := B) (As := [.int (nI v), .int fr]) (st := []) (hz_dec kX12_receiveBlock 12 rfl) co_X12_607 im_X12_store se_X12_store rfl hO3 h8 (by omega) (hq) rfl (by omega) ⟨Nat.le_refl _, Nat.le_refl _⟩ (Nat.le_of_ble_eq_true rfl) rfl (fun r9 z9 M4 hp9 => ?_)
    obtain ⟨rfl, rfl, hf4, hE4, hag4, hcw4, hmg4, hok4, hno4⟩ := hp9
    have hfr4 : mfr B [16, 39, 53, 54, 55, 59, 61, 86, 87, 88] [3, 4, 5, 6, 7, 8, 9, 10, 11, 12, 13, 14, 15, 16, 17, 18, 19, 20, 21, 23, 24, 25, 26, 27, 28, 29, 30, 31, 32, 33, 35, 36, 42, 43, 44, 45, 46, 47, 48, 49, 50, 51, 52, 53, 54, 55, 56, 57, 58, 59, 60, 61, 62, 63, 64, 65, 66, 67, 68, 70, 71, 72, 73, 74, 75, 76, 77] M M4 := hfr3.tr (hf4.mono rfl rfl)
    obtain ⟨fs4, hO4, hF4⟩ := id hf4.2.1
    have e234 : fA M4 B 23 = fA M B 23 := (fA_m hf4 (by decide) rfl).trans e23
    refine hz_aloadn (pc := 21) 1 (hz_dec kX12_receiveBlock 13 rfl) rfl ?_
    refine hz_iloadn (pc := 22) 2 (hz_dec kX12_receiveBlock 14 rfl) rfl ?_
    cases e4 : (kp nn dl now v fr 9 S l).2 with
    | true =>
      obtain ⟨hmn4, ol4, hx4, hlo4, hor4⟩ := hok4 e4
      refine hz_callV (pc := 23) (a := B) (As := [.int (nI v)]) (st := []) (hz_dec kX12_receiveBlock 15 rfl) co_X12_673 im_X12_clean se_X12_clean rfl hO4 h8 (by omega) (c_cln hf4.2.1 hE4 h8 hz hv6 hor4 (hx4.w (orW_mk i5))) rfl (by omega) ⟨Nat.le_refl _, Nat.le_refl _⟩ (Nat.le_of_ble_eq_true rfl) rfl (fun r9 z9 M5 hp9 => ?_)
      obtain ⟨rfl, rfl, hf5, hE5, hag5, hor5⟩ := hp9
      have hcl : ol4.filter (fun x => decide (x.2 = 1)) = mkO (loO ol4) := loO_cl (fun j hj => by have hj2 : j < (mkO (ksL S)).length := (by rw [← hx4.1]; exact hj); have q := (hx4.2 j hj2).2; rw [mkO_len] at hj2; rw [orL_mk _ hj2] at q; rcases q with c | ⟨c, c2⟩; exact Or.inl c; exact Or.inr c2)
      rw [hcl, ← hlo4] at hor5
      have e2 : (tkB nn dl now v fr d S l).2.1 = true := by rw [eT]; exact e4
      refine hz_goto (pc := 26) (tgt := 67) (hz_dec kX12_receiveBlock 16 rfl) (by decide) ?_
      refine hz_iloadn (pc := 67) 0 (hz_dec kX12_receiveBlock 40 rfl) rfl ?_
      exact hz_iret (pc := 68) (hz_dec kX12_receiveBlock 41 rfl) rfl ⟨rfl, rfl, hfr4.tr (hf5.mono rfl rfl), hE5, (hag3.tr hag4).tr hag5, (hcw3.tr hcw4).tr (cvK.mf (bl := ksB S) (en := enB (ksB S)) hf5 rfl rfl rfl rfl).w, (by rw [eT]; exact hmg4.mf hf5 rfl rfl), (by rw [if_neg (by omega), fA_m hf5 (by decide) rfl, e234]), (fun _ => by rw [eT]; exact ⟨hmn4.mf hf5 rfl rfl, hor5⟩), (fun q9 => by rw [e2] at q9; cases q9)⟩
    | false =>
      obtain ⟨hmn4, hor4⟩ := hno4 e4
      refine hz_callV (pc := 23) (a := B) (As := [.int (nI v)]) (st := []) (hz_dec kX12_receiveBlock 15 rfl) co_X12_673 im_X12_clean se_X12_clean rfl hO4 h8 (by omega) (c_cln hf4.2.1 hE4 h8 hz hv6 hor4 ⟨Nat.zero_le _, fun k hk => absurd hk (Nat.not_lt_zero k)⟩) rfl (by omega) ⟨Nat.le_refl _, Nat.le_refl _⟩ (Nat.le_of_ble_eq_true rfl) rfl (fun r9 z9 M5 hp9 => ?_)
      obtain ⟨rfl, rfl, hf5, hE5, hag5, hor5⟩ := hp9
      have e2 : (tkB nn dl now v fr d S l).2.1 = false := by rw [eT]; exact e4
      refine hz_goto (pc := 26) (tgt := 67) (hz_dec kX12_receiveBlock 16 rfl) (by decide) ?_
      refine hz_iloadn (pc := 67) 0 (hz_dec kX12_receiveBlock 40 rfl) rfl ?_
      exact hz_iret (pc := 68) (hz_dec kX12_receiveBlock 41 rfl) rfl ⟨rfl, rfl, hfr4.tr (hf5.mono rfl rfl), hE5, (hag3.tr hag4).tr hag5, (hcw3.tr hcw4).tr (cvK.mf (bl := ksB S) (en := enB (ksB S)) hf5 rfl rfl rfl rfl).w, (by rw [eT]; exact hmg4.mf hf5 rfl rfl), (by rw [if_neg (by omega), fA_m hf5 (by decide) rfl, e234]), (fun q9 => by rw [e2] at q9; cases q9), (fun _ => by rw [eT]; exact ⟨hmn4.mf hf5 rfl rfl, hor5⟩)⟩
set_option maxHeartbeats 4000000 in
set_option maxRecDepth 100000 in
theorem c_rcvT {κ : hz_C} {z B nn v : Nat} {now fr : Int32} {dl : Nat → Nat} (hnn : nn ≤ 6) (hvn : v < nn) {d : Nat} (hto : (∃ b, b < 6 ∧ fr = nI b ∧ d = dl (6 * v + b)) ∨ (fr < 0 ∧ d = 0)) {M : hz_M} {S : ks_S} {l : by_L} (hk0 : md_k B M z) (hE : mdE M B) (hmg : mgR M B nn now dl (ksQ S)) (hmn : mnS M B v 1 S (pvI (ksF S)) (ksP S)) (hor : orX (fA M B) v (mkO (ksL S))) (hI : ksI S) (hl4 : l.length ≤ 4000) (h78 : isA (fA M B 78) 0 l) (h92 : fdB M B 92 = some (.int (nI l.length))) : hz_Mt κ xX12_receiveTransaction 9 0 0 [.ref B, .int (nI v), .int fr] z M (fun r z2 M2 => some (.int (nI (ksV S l))) = r ∧ z = z2 ∧ mfr B [16, 39, 53, 54, 55, 59, 61, 86, 87, 88] [3, 4, 5, 6, 7, 8, 9, 10, 11, 12, 13, 14, 15, 16, 17, 18, 19, 20, 21, 23, 24, 25, 26, 27, 28, 29, 30, 31, 32, 33, 35, 36, 42, 43, 44, 45, 46, 47, 48, 49, 50, 51, 52, 53, 54, 55, 56, 57, 58, 59, 60, 61, 62, 63, 64, 65, 66, 67, 68, 70, 71, 72, 73, 74, 75, 76, 77] M M2 ∧ mdE M2 B ∧ agV M M2 B v ∧ cvW M M2 B v ∧ mgR M2 B nn now dl (ksQ (tkT nn dl now v fr S l)) ∧ fA M2 B 23 v = (if ksV S l = 1 then fA M B 23 v + 1 else fA M B 23 v) ∧ mnS M2 B v 1 (tkT nn dl now v fr S l) (pvI (ksF S)) (ksP (tkT nn dl now v fr S l)) ∧ orX (fA M2 B) v (mkO (ksL S))) := by
  refine hz_ent (lo := [(0, .ref B), (1, .int (nI v)), (2, .int fr)]) (by decide) (Nat.le_of_ble_eq_true rfl) rfl ?_
  obtain ⟨⟨fs, hO, hF⟩, -, -, h8, hz⟩ := id hk0
  obtain ⟨i1, i2, i3, i4, i5⟩ := id hI
  have htop := i1.top
  have hv6 : v < 6 := by omega
  have hv9 := ksV_lt S l
  obtain ⟨m16, m17, m18, m19, mnb, mpo, mcv, mpl⟩ := id hmn
  have hb := i1.p i2
  obtain ⟨b1, b2, b3, b4, b5, b6, b7, b8⟩ := id hb
  have g92 : fs[92]? = some (.int (nI l.length)) := (fdB_of hO 92).symm.trans h92
  refine hz_aloadn (pc := 0) 0 (hz_dec kX12_receiveTransaction 0 rfl) rfl ?_
  refine hz_iloadn (pc := 1) 1 (hz_dec kX12_receiveTransaction 1 rfl) rfl ?_
  refine hz_aloadn (pc := 2) 0 (hz_dec kX12_receiveTransaction 2 rfl) rfl ?_
  refine hz_get (pc := 3) (v := .ref (B + 78)) (hz_dec kX12_receiveTransaction 3 rfl) fo_X12_255 hO h8 (by omega) (hF.2 91 (by decide) (by decide)) ?_
  refine hz_iconst (pc := 6) (v := nI 0) (hz_dec kX12_receiveTransaction 4 rfl) (by decide) ?_
  refine hz_aloadn (pc := 7) 0 (hz_dec kX12_receiveTransaction 5 rfl) rfl ?_
  refine hz_get (pc := 8) (v := .int (nI (l.length))) (hz_dec kX12_receiveTransaction 6 rfl) fo_X12_637 hO h8 (by omega) g92 ?_
  refine hz_callV (pc := 11) (a := B) (As := [.int (nI v), .ref (B + 78), .int (nI 0), .int (nI (l.length))]) (st := []) (hz_dec kX12_receiveTransaction 7 rfl) co_X12_578 im_X12_judgeForPool se_X12_judgeForPool rfl hO h8 (by omega) (c_jfp hk0 hE hv6 (by omega) (by rw [enB_len]; exact Nat.le_refl _) mnb.1 mnb.2.1 b3 b4 mnb.2.2 b5 (b6 _ b5) (b7 _ b5).1 (b7 _ b5).2 mcv mpo i4 hE.a78 (by omega) (by omega) (ne_off (by decide)) (by decide) h78 (by omega)) rfl (by omega) ⟨Nat.le_refl _, Nat.le_refl _⟩ (Nat.le_of_ble_eq_true rfl) rfl (fun r9 z9 M1 hp9 => ?_)
  obtain ⟨rfl, rfl, hf1, hE1, hcc1, hfe1⟩ := hp9
  refine hz_eqi (pc := 14) (show _ = nI (ksV S l) from rfl) ?_
  have hck1 := ccP.k hcc1 hv6 b5
  have hcv1 := hck1 v _ _ hv6 (fun _ => ⟨rfl, rfl⟩) mcv
  have hmn1 := hmn.mv hf1 hcv1 rfl
  have hmg1 := hmg.mf hf1 rfl rfl
  have hor1 := hor.mf hf1 rfl
  have hk1 : md_k B M1 z := hk0.mf hf1 rfl rfl
  obtain ⟨fs1, hO1, hF1⟩ := id hf1.2.1
  have e23 : fA M1 B 23 = fA M B 23 := fA_m hf1 (by decide) rfl
  have hfr1 : mfr B [16, 39, 53, 54, 55, 59, 61, 86, 87, 88] [3, 4, 5, 6, 7, 8, 9, 10, 11, 12, 13, 14, 15, 16, 17, 18, 19, 20, 21, 23, 24, 25, 26, 27, 28, 29, 30, 31, 32, 33, 35, 36, 42, 43, 44, 45, 46, 47, 48, 49, 50, 51, 52, 53, 54, 55, 56, 57, 58, 59, 60, 61, 62, 63, 64, 65, 66, 67, 68, 70, 71, 72, 73, 74, 75, 76, 77] M M1 := hf1.mono rfl rfl
  have hag1 : agV M M1 B v := agV.mf hf1 rfl rfl
  have h781 : isA (fA M1 B 78) 0 l := by rw [fA_m hf1 (by decide) rfl]; exact h78
  have g921 : fs1[92]? = some (.int (nI l.length)) := (fdB_of hO1 92).symm.trans ((hf1.2.2 92 rfl).trans h92)
  have hVx : jPo (ksP S) (coAt (ksB S) (enB (ksB S)) (ksT S)) l (eH (enB (ksB S)) (ksT S) + 1) = ksV S l := rfl
  refine hz_istoren (pc := 14) (i := 3) (lo2 := [(3, .int (nI (ksV S l))), (0, .ref B), (1, .int (nI v)), (2, .int fr)]) (hz_dec kX12_receiveTransaction 8 rfl) rfl (by decide) rfl ?_
  refine hz_iloadn (pc := 15) 0 (hz_dec kX12_receiveTransaction 9 rfl) rfl ?_
  refine hz_z_ne (pc := 16) (tgt := 53) (hz_dec kX12_receiveTransaction 10 rfl) (by decide) (by omega) (fun h1 => ?_) (fun h1 => ?_)
  · skip
    have eP : ksP (tkT nn dl now v fr S l) = ksP S := by show poN _ _ _ _ _ = _; unfold poN; rw [if_neg (fun q => by omega)]
    refine hz_iloadn (pc := 53) 0 (hz_dec kX12_receiveTransaction 30 rfl) rfl ?_
    refine hz_iconst (pc := 54) (v := nI 1) (hz_dec kX12_receiveTransaction 31 rfl) (by decide) ?_
    refine hz_n_ne (pc := 55) (tgt := 68) (hz_dec kX12_receiveTransaction 32 rfl) (by decide) (by omega) (by omega) (fun h2 => ?_) (fun h2 => ?_)
    · skip
      refine hz_iloadn (pc := 68) 0 (hz_dec kX12_receiveTransaction 41 rfl) rfl ?_
      exact hz_iret (pc := 69) (hz_dec kX12_receiveTransaction 42 rfl) rfl ⟨rfl, rfl, hfr1, hE1, hag1, hck1.w, (by show mgR _ B nn now dl (if ksV S l = 0 then _ else _); rw [if_neg (by omega)]; exact hmg1), (by rw [if_neg (by omega), e23]), (by rw [eP]; exact hmn1), hor1⟩
    · skip
      refine hz_aloadn (pc := 58) 1 (hz_dec kX12_receiveTransaction 33 rfl) rfl ?_
      refine hz_get (pc := 59) (v := .ref (B + 23)) (hz_dec kX12_receiveTransaction 34 rfl) fo_X12_80 hO1 h8 (by omega) (hF1.2 25 (by decide) (by decide)) ?_
      refine hz_iloadn (pc := 62) 2 (hz_dec kX12_receiveTransaction 35 rfl) rfl ?_
      refine hz_dup2 (pc := 63) (hz_dec kX12_receiveTransaction 36 rfl) rfl rfl ?_
      refine hz_iald (pc := 64) (j := v) (hz_dec kX12_receiveTransaction 37 rfl) hE1.a23 (by omega) (by omega) rfl (by omega) (by decide) ?_
      refine hz_iconst (pc := 65) (v := nI 1) (hz_dec kX12_receiveTransaction 38 rfl) (by decide) ?_
      refine hz_iadd (pc := 66) (hz_dec kX12_receiveTransaction 39 rfl) ?_
      refine hz_iast (pc := 67) (j := v) (hz_dec kX12_receiveTransaction 40 rfl) hE1.a23 (by omega) (by omega) rfl (by omega) (by decide) ?_
      refine hz_iloadn (pc := 68) 0 (hz_dec kX12_receiveTransaction 41 rfl) rfl ?_
      have hm4 : mfr B [] [23] M1 (va_up M1 (B + 23) (.inl (0, 6, .inl (upd (fA M1 B 23) v ((((fA M1 B 23) v) + (nI (1)))))))) := (mfr.rf ⟨fs1, hO1, hF1⟩).upA (o := 23) rfl (by decide)
      have hg4 : agV M1 (va_up M1 (B + 23) (.inl (0, 6, .inl (upd (fA M1 B 23) v ((((fA M1 B 23) v) + (nI (1)))))))) B v := agV.rf.upA (s := 1) (by decide) (by decide) (fun x hx => upd_o (by omega))
      exact hz_iret (pc := 69) (hz_dec kX12_receiveTransaction 42 rfl) rfl ⟨rfl, rfl, hfr1.tr (hm4.mono rfl rfl), hE1.upA (by decide), hag1.tr hg4, hck1.w.tr (cvK.mf (bl := ksB S) (en := enB (ksB S)) hm4 rfl rfl rfl rfl).w, (by show mgR _ B nn now dl (if ksV S l = 0 then _ else _); rw [if_neg (by omega)]; exact hmg1.mf hm4 rfl rfl), (by rw [if_pos h2, fA_of (va_up_self _ _ _), upd_s, e23]; rfl), (by rw [eP]; exact hmn1.mf hm4 rfl rfl), hor1.mf hm4 rfl⟩
  · skip
    have e0 : ksV S l = 0 := by omega
    obtain ⟨tW, ti, t16⟩ := jPo_0 (hVx.trans e0)
    have eP : ksP (tkT nn dl now v fr S l) = ksP S ++ [(l, (jSp (coAt (ksB S) (enB (ksB S)) (ksT S)) l (eH (enB (ksB S)) (ksT S) + 1)).2)] := by show poN _ _ _ _ _ = _; unfold poN; rw [if_pos ⟨hVx.trans e0, rfl⟩]
    refine hz_aloadn (pc := 19) 1 (hz_dec kX12_receiveTransaction 11 rfl) rfl ?_
    refine hz_iloadn (pc := 20) 2 (hz_dec kX12_receiveTransaction 12 rfl) rfl ?_
    refine hz_aloadn (pc := 21) 1 (hz_dec kX12_receiveTransaction 13 rfl) rfl ?_
    refine hz_get (pc := 22) (v := .ref (B + 78)) (hz_dec kX12_receiveTransaction 14 rfl) fo_X12_255 hO1 h8 (by omega) (hF1.2 91 (by decide) (by decide)) ?_
    refine hz_iconst (pc := 25) (v := nI 0) (hz_dec kX12_receiveTransaction 15 rfl) (by decide) ?_
    refine hz_aloadn (pc := 26) 1 (hz_dec kX12_receiveTransaction 16 rfl) rfl ?_
    refine hz_get (pc := 27) (v := .int (nI (l.length))) (hz_dec kX12_receiveTransaction 17 rfl) fo_X12_637 hO1 h8 (by omega) g921 ?_
    refine hz_callV (pc := 30) (a := B) (As := [.int (nI v), .ref (B + 78), .int (nI 0), .int (nI (l.length))]) (st := []) (hz_dec kX12_receiveTransaction 18 rfl) co_X12_582 im_X12_addToPool se_X12_addToPool rfl hO1 h8 (by omega) (c_aPoV hk1 hE1 hv6 hmn1.2.2.2.2.2.1 t16 hE1.a78 (by omega) (by omega) (ne_off (by decide)) (by decide) h781 (by omega) tW (fun k hk => by have q := txW_len (i4.2 k hk).1; omega) (hfe1 (hVx.trans e0))) rfl (by omega) ⟨Nat.le_refl _, Nat.le_refl _⟩ (Nat.le_of_ble_eq_true rfl) rfl (fun r9 z9 M2 hp9 => ?_)
    obtain ⟨rfl, rfl, hf2, hE2, hp2, hg2⟩ := hp9
    obtain ⟨fs2, hO2, hF2⟩ := id hf2.2.1
    have hmg2 := hmg1.mf hf2 rfl rfl
    have h782 : isA (fA M2 B 78) 0 l := by rw [fA_m hf2 (by decide) rfl]; exact h781
    have g922 : fs2[92]? = some (.int (nI l.length)) := (fdB_of hO2 92).symm.trans ((hf2.2.2 92 rfl).trans ((hf1.2.2 92 rfl).trans h92))
    refine hz_aloadn (pc := 33) 1 (hz_dec kX12_receiveTransaction 19 rfl) rfl ?_
    refine hz_iloadn (pc := 34) 2 (hz_dec kX12_receiveTransaction 20 rfl) rfl ?_
    refine hz_iloadn (pc := 35) 3 (hz_dec kX12_receiveTransaction 21 rfl) rfl ?_
    refine hz_bipush (pc := 36) (v := nI 6) (hz_dec kX12_receiveTransaction 22 rfl) (by decide) ?_
    refine hz_aloadn (pc := 38) 1 (hz_dec kX12_receiveTransaction 23 rfl) rfl ?_
    refine hz_get (pc := 39) (v := .ref (B + 78)) (hz_dec kX12_receiveTransaction 24 rfl) fo_X12_255 hO2 h8 (by omega) (hF2.2 91 (by decide) (by decide)) ?_
    refine hz_iconst (pc := 42) (v := nI 0) (hz_dec kX12_receiveTransaction 25 rfl) (by decide) ?_
    refine hz_aloadn (pc := 43) 1 (hz_dec kX12_receiveTransaction 26 rfl) rfl ?_
    refine hz_get (pc := 44) (v := .int (nI (l.length))) (hz_dec kX12_receiveTransaction 27 rfl) fo_X12_637 hO2 h8 (by omega) g922 ?_
    refine hz_callV (pc := 47) (a := B) (As := [.int (nI v), .int fr, .int (nI 6), .ref (B + 78), .int (nI 0), .int (nI (l.length))]) (st := []) (hz_dec kX12_receiveTransaction 28 rfl) co_X12_626 im_X12_sendAll se_X12_sendAll rfl hO2 h8 (by omega) (c_sAll hf2.2.1 hE2 h8 hz hnn hmg2.1 hmg2.2.1 hvn hE2.a78 (by omega) (by omega) (ne_off (by decide)) (by decide) h782 (by omega) hl4 (but := fr) (kd := nI 6) hmg2.2.2) rfl (by omega) ⟨Nat.le_refl _, Nat.le_refl _⟩ (Nat.le_of_ble_eq_true rfl) rfl (fun r9 z9 M3 hp9 => ?_)
    obtain ⟨rfl, rfl, hf3, hE3, hQ3⟩ := hp9
    have hmg3 : mgR M3 B nn now dl (tlQ dl now v fr (nI 6) l nn (ksQ S)) := ⟨(hf3.2.2 1 rfl).trans hmg2.1, by unfold mdD; rw [fA_m hf3 (by decide) rfl]; exact hmg2.2.1, hQ3⟩
    obtain ⟨k16, k17, k18, k19, knb, kpo, kcv, kpl⟩ := id hmn1
    have hcv2 := cvK.mf (v := v) (bl := ksB S) (en := enB (ksB S)) hf2 rfl rfl rfl rfl
    have hmn2 : mnS M2 B v 1 (tkT nn dl now v fr S l) (pvI (ksF S)) (ksP (tkT nn dl now v fr S l)) := by rw [eP]; exact ⟨by rw [fA_m hf2 (by decide) rfl]; exact k16, by rw [fA_m hf2 (by decide) rfl]; exact k17, by rw [fA_m hf2 (by decide) rfl]; exact k18, by rw [fA_m hf2 (by decide) rfl]; exact k19, knb.mf hf2 rfl, hp2, hcv2 v _ _ hv6 (fun _ => ⟨rfl, rfl⟩) kcv, by unfold mnP; rw [fA_m hf2 (by decide) rfl]; exact kpl⟩
    refine hz_goto (pc := 50) (tgt := 68) (hz_dec kX12_receiveTransaction 29 rfl) (by decide) ?_
    refine hz_iloadn (pc := 68) 0 (hz_dec kX12_receiveTransaction 41 rfl) rfl ?_
    exact hz_iret (pc := 69) (hz_dec kX12_receiveTransaction 42 rfl) rfl ⟨rfl, rfl, (hfr1.tr (hf2.mono rfl rfl)).tr (hf3.mono rfl rfl), hE3, (hag1.tr hg2).tr (agV.mf hf3 rfl rfl), (hck1.w.tr hcv2.w).tr (cvK.mf (bl := ksB S) (en := enB (ksB S)) hf3 rfl rfl rfl rfl).w, (by show mgR _ B nn now dl (if ksV S l = 0 then _ else _); rw [if_pos e0]; exact hmg3), (by rw [if_neg (by omega), fA_m hf3 (by decide) rfl, fA_m hf2 (by decide) rfl, e23]), hmn2.mf hf3 rfl rfl, (hor1.mf hf2 rfl).mf hf3 rfl⟩
