/-! Coins -/
def coR (M : hz_M) (a : Nat) (cs : List co_C) : Prop := M a = .inr (1, [.ref (a + 1), .ref (a + 2), .ref (a + 3), .ref (a + 4), .ref (a + 5), .ref (a + 6), .int (nI cs.length), .ref (a + 7)]) ∧ cs.length ≤ 400 ∧ (∃ f7 : Nat → Int32, M (a + 7) = .inl (0, 113, .inl f7)) ∧ ∃ (f1 : Nat → Int64) (f2 : Nat → Int32) (f3 f4 : Nat → Int64) (f5 f6 : Nat → Int32), M (a + 1) = .inl (2, 400, .inr (.inl f1)) ∧ M (a + 2) = .inl (0, 400, .inl f2) ∧ M (a + 3) = .inl (2, 400, .inr (.inl f3)) ∧ M (a + 4) = .inl (2, 400, .inr (.inl f4)) ∧ M (a + 5) = .inl (0, 400, .inl f5) ∧ M (a + 6) = .inl (3, 400, .inl f6) ∧ coX f1 f2 f3 f4 f5 f6 cs
theorem coR.fr {M M2 : hz_M} {a : Nat} {cs : List co_C} (h : coR M a cs) (e : ∀ q, a ≤ q → q < a + 8 → M2 q = M q) : coR M2 a cs := by
  obtain ⟨h0, h1, ⟨f7, h7⟩, f1, f2, f3, f4, f5, f6, g1, g2, g3, g4, g5, g6, hx⟩ := h
  exact ⟨(e a (by omega) (by omega)).trans h0, h1, ⟨f7, (e (a + 7) (by omega) (by omega)).trans h7⟩, f1, f2, f3, f4, f5, f6, (e (a + 1) (by omega) (by omega)).trans g1, (e (a + 2) (by omega) (by omega)).trans g2, (e (a + 3) (by omega) (by omega)).trans g3, (e (a + 4) (by omega) (by omega)).trans g4, (e (a + 5) (by omega) (by omega)).trans g5, (e (a + 6) (by omega) (by omega)).trans g6, hx⟩
set_option maxHeartbeats 4000000 in
set_option maxRecDepth 100000 in
theorem c_coIx_l {κ : hz_C} {z : Nat} {M : hz_M} {a : Nat} {cs : List co_C} (h : coR M a cs) (ha : 8 ≤ a) (hz : a + 8 ≤ z) {iD : Int64} {pl : Int32} : ∀ k i, k = cs.length - i → i ≤ cs.length → (∀ j, j < i → decide ((coL cs j).1 = iD ∧ (coL cs j).2.1 = pl) = false) → hz_W κ xX1_indexOf 0 0 0 (hz_ex (some (.int (ixI (coF cs iD pl) cs.length))) z M) 0 0 3 [(4, .int (nI i)), (0, .ref a), (1, .long iD), (3, .int pl)] [] z M := by
  intro k
  induction k using Nat.strongRecOn with
  | ind k ih =>
  intro i hk hi hs
  obtain ⟨hO, hle, ⟨f7, h7⟩, f1, f2, f3, f4, f5, f6, g1, g2, g3, g4, g5, g6, hX⟩ := id h
  refine hz_iload (pc := 3) 0 (hz_dec kX1_indexOf 2 rfl) rfl ?_
  refine hz_aloadn (pc := 5) 1 (hz_dec kX1_indexOf 3 rfl) rfl ?_
  refine hz_get (pc := 6) (hz_dec kX1_indexOf 4 rfl) fo_X1_35 hO ha (by omega) rfl ?_
  refine hz_n_ge (pc := 9) (tgt := 44) (hz_dec kX1_indexOf 5 rfl) (by decide) (by omega) (by omega) (fun h1 => ?_) (fun h1 => ?_)
  · skip
    have e : i = cs.length := by omega
    subst e
    refine hz_iconst (pc := 44) (v := (-1)) (hz_dec kX1_indexOf 23 rfl) (by decide) ?_
    refine hz_iret (pc := 45) (hz_dec kX1_indexOf 24 rfl) rfl ⟨?_, rfl, rfl⟩
    unfold ixI coF
    rw [fsI_no _ hs, if_neg (by omega)]
  · skip
    refine hz_aloadn (pc := 12) 1 (hz_dec kX1_indexOf 6 rfl) rfl ?_
    refine hz_get (pc := 13) (hz_dec kX1_indexOf 7 rfl) fo_X1_9 hO ha (by omega) rfl ?_
    refine hz_iload (pc := 16) 0 (hz_dec kX1_indexOf 8 rfl) rfl ?_
    refine hz_lald (pc := 18) (j := i) (hz_dec kX1_indexOf 9 rfl) g1 (by omega) (by omega) rfl (by omega) (by decide) ?_
    refine hz_eql (pc := 19) (hX (i) (by omega)).1 ?_
    refine hz_lloadn (pc := 19) 2 (hz_dec kX1_indexOf 10 rfl) rfl ?_
    refine hz_lcmp (pc := 20) (hz_dec kX1_indexOf 11 rfl) ?_
    refine hz_if_ne (pc := 21) (tgt := 38) (hz_dec kX1_indexOf 12 rfl) (by decide) (fun h2 => ?_) (fun h2 => ?_)
    · skip
      refine hz_incN (pc := 38) (i := 4) (lo2 := [(4, .int (nI (i + 1))), (0, .ref a), (1, .long iD), (3, .int pl)]) 0 (hz_dec kX1_indexOf 21 rfl) rfl (by decide) rfl ?_
      refine hz_goto (pc := 41) (tgt := 3) (hz_dec kX1_indexOf 22 rfl) (by decide) ?_
      refine hz_pick (pc := 3) [0, 1, 2, 3] rfl ?_
      refine ih (cs.length - (i + 1)) (by omega) (i + 1) rfl (by omega) (fun j hj => ?_)
      rcases (show j = i ∨ j < i by omega) with rfl | c
      · exact decide_eq_false (fun q => h2 (by rw [q.1]; exact (lg_cmp_eq _ _).mpr rfl))
      · exact hs j c
    · skip
      refine hz_aloadn (pc := 24) 1 (hz_dec kX1_indexOf 13 rfl) rfl ?_
      refine hz_get (pc := 25) (hz_dec kX1_indexOf 14 rfl) fo_X1_15 hO ha (by omega) rfl ?_
      refine hz_iload (pc := 28) 0 (hz_dec kX1_indexOf 15 rfl) rfl ?_
      refine hz_iald (pc := 30) (j := i) (hz_dec kX1_indexOf 16 rfl) g2 (by omega) (by omega) rfl (by omega) (by decide) ?_
      refine hz_eqi (pc := 31) (hX (i) (by omega)).2.1 ?_
      refine hz_iloadn (pc := 31) 3 (hz_dec kX1_indexOf 17 rfl) rfl ?_
      refine hz_icmp_ne (pc := 32) (tgt := 38) (hz_dec kX1_indexOf 18 rfl) (by decide) (fun h3 => ?_) (fun h3 => ?_)
      · skip
        refine hz_incN (pc := 38) (i := 4) (lo2 := [(4, .int (nI (i + 1))), (0, .ref a), (1, .long iD), (3, .int pl)]) 0 (hz_dec kX1_indexOf 21 rfl) rfl (by decide) rfl ?_
        refine hz_goto (pc := 41) (tgt := 3) (hz_dec kX1_indexOf 22 rfl) (by decide) ?_
        refine hz_pick (pc := 3) [0, 1, 2, 3] rfl ?_
        refine ih (cs.length - (i + 1)) (by omega) (i + 1) rfl (by omega) (fun j hj => ?_)
        rcases (show j = i ∨ j < i by omega) with rfl | c
        · exact decide_eq_false (fun q => h3 q.2)
        · exact hs j c
      · skip
        refine hz_iload (pc := 35) 0 (hz_dec kX1_indexOf 19 rfl) rfl ?_
        refine hz_iret (pc := 37) (hz_dec kX1_indexOf 20 rfl) rfl ⟨?_, rfl, rfl⟩
        unfold ixI coF
        rw [fsI_at (i := i) (decide_eq_true ⟨(lg_cmp_eq _ _).mp h2, h3⟩) hs _ (by omega), if_pos (by omega)]
set_option maxHeartbeats 4000000 in
set_option maxRecDepth 100000 in
theorem c_coIx {κ : hz_C} {z : Nat} {M : hz_M} {a : Nat} {cs : List co_C} (h : coR M a cs) (ha : 8 ≤ a) (hz : a + 8 ≤ z) {iD : Int64} {pl : Int32} : hz_Mt κ xX1_indexOf 0 0 0 [.ref a, .long iD, .int pl] z M (hz_ex (some (.int (ixI (coF cs iD pl) cs.length))) z M) := by
  refine hz_ent (lo := [(0, .ref a), (1, .long iD), (3, .int pl)]) (by decide) (Nat.le_of_ble_eq_true rfl) rfl ?_
  refine hz_iconst (pc := 0) (v := nI 0) (hz_dec kX1_indexOf 0 rfl) (by decide) ?_
  refine hz_istore (pc := 1) (i := 4) (lo2 := [(4, .int (nI 0)), (0, .ref a), (1, .long iD), (3, .int pl)]) (hz_dec kX1_indexOf 1 rfl) (by decide) rfl ?_
  refine hz_pick (pc := 3) [0, 1, 2, 3] rfl ?_
  exact c_coIx_l h ha hz cs.length 0 rfl (by omega) (fun j hj => absurd hj (by omega))
set_option maxHeartbeats 4000000 in
set_option maxRecDepth 100000 in
theorem c_coHs_l {κ : hz_C} {z : Nat} {M : hz_M} {a : Nat} {cs : List co_C} (h : coR M a cs) (ha : 8 ≤ a) (hz : a + 8 ≤ z) {iD : Int64} : ∀ k i, k = cs.length - i → i ≤ cs.length → (∀ j, j < i → decide ((coL cs j).1 = iD) = false) → hz_W κ xX1_holds 0 0 0 (hz_ex (some (.int (hz_b (coHs cs iD)))) z M) 0 0 2 [(3, .int (nI i)), (0, .ref a), (1, .long iD)] [] z M := by
  intro k
  induction k using Nat.strongRecOn with
  | ind k ih =>
  intro i hk hi hs
  obtain ⟨hO, hle, ⟨f7, h7⟩, f1, f2, f3, f4, f5, f6, g1, g2, g3, g4, g5, g6, hX⟩ := id h
  refine hz_iloadn (pc := 2) 0 (hz_dec kX1_holds 2 rfl) rfl ?_
  refine hz_aloadn (pc := 3) 1 (hz_dec kX1_holds 3 rfl) rfl ?_
  refine hz_get (pc := 4) (hz_dec kX1_holds 4 rfl) fo_X1_35 hO ha (by omega) rfl ?_
  refine hz_n_ge (pc := 7) (tgt := 29) (hz_dec kX1_holds 5 rfl) (by decide) (by omega) (by omega) (fun h1 => ?_) (fun h1 => ?_)
  · skip
    have e : i = cs.length := by omega
    subst e
    refine hz_iconst (pc := 29) (v := nI 0) (hz_dec kX1_holds 17 rfl) (by decide) ?_
    refine hz_zret (pc := 30) (hz_dec kX1_holds 18 rfl) rfl rfl ⟨?_, rfl, rfl⟩
    unfold coHs
    rw [fsI_no _ hs, decide_eq_false (by omega)]
    rfl
  · skip
    refine hz_aloadn (pc := 10) 1 (hz_dec kX1_holds 6 rfl) rfl ?_
    refine hz_get (pc := 11) (hz_dec kX1_holds 7 rfl) fo_X1_9 hO ha (by omega) rfl ?_
    refine hz_iloadn (pc := 14) 0 (hz_dec kX1_holds 8 rfl) rfl ?_
    refine hz_lald (pc := 15) (j := i) (hz_dec kX1_holds 9 rfl) g1 (by omega) (by omega) rfl (by omega) (by decide) ?_
    refine hz_eql (pc := 16) (hX (i) (by omega)).1 ?_
    refine hz_lloadn (pc := 16) 2 (hz_dec kX1_holds 10 rfl) rfl ?_
    refine hz_lcmp (pc := 17) (hz_dec kX1_holds 11 rfl) ?_
    refine hz_if_ne (pc := 18) (tgt := 23) (hz_dec kX1_holds 12 rfl) (by decide) (fun h2 => ?_) (fun h2 => ?_)
    · skip
      refine hz_incN (pc := 23) (i := 3) (lo2 := [(3, .int (nI (i + 1))), (0, .ref a), (1, .long iD)]) 0 (hz_dec kX1_holds 15 rfl) rfl (by decide) rfl ?_
      refine hz_goto (pc := 26) (tgt := 2) (hz_dec kX1_holds 16 rfl) (by decide) ?_
      refine hz_pick (pc := 2) [0, 1, 2] rfl ?_
      refine ih (cs.length - (i + 1)) (by omega) (i + 1) rfl (by omega) (fun j hj => ?_)
      rcases (show j = i ∨ j < i by omega) with rfl | c
      · exact decide_eq_false (fun q => h2 (by rw [q]; exact (lg_cmp_eq _ _).mpr rfl))
      · exact hs j c
    · skip
      refine hz_iconst (pc := 21) (v := nI 1) (hz_dec kX1_holds 13 rfl) (by decide) ?_
      refine hz_zret (pc := 22) (hz_dec kX1_holds 14 rfl) rfl rfl ⟨?_, rfl, rfl⟩
      unfold coHs
      rw [fsI_at (i := i) (decide_eq_true ((lg_cmp_eq _ _).mp h2)) hs _ (by omega), decide_eq_true (by omega)]
      rfl
set_option maxHeartbeats 4000000 in
set_option maxRecDepth 100000 in
theorem c_coHs {κ : hz_C} {z : Nat} {M : hz_M} {a : Nat} {cs : List co_C} (h : coR M a cs) (ha : 8 ≤ a) (hz : a + 8 ≤ z) {iD : Int64} : hz_Mt κ xX1_holds 0 0 0 [.ref a, .long iD] z M (hz_ex (some (.int (hz_b (coHs cs iD)))) z M) := by
  refine hz_ent (lo := [(0, .ref a), (1, .long iD)]) (by decide) (Nat.le_of_ble_eq_true rfl) rfl ?_
  refine hz_iconst (pc := 0) (v := nI 0) (hz_dec kX1_holds 0 rfl) (by decide) ?_
  refine hz_istoren (pc := 1) (i := 3) (lo2 := [(3, .int (nI 0)), (0, .ref a), (1, .long iD)]) (hz_dec kX1_holds 1 rfl) rfl (by decide) rfl ?_
  refine hz_pick (pc := 2) [0, 1, 2] rfl ?_
  exact c_coHs_l h ha hz cs.length 0 rfl (by omega) (fun j hj => absurd hj (by omega))
set_option maxHeartbeats 4000000 in
set_option maxRecDepth 100000 in
theorem c_coRem {κ : hz_C} {z : Nat} {M : hz_M} {a : Nat} {cs : List co_C} (h : coR M a cs) (ha : 8 ≤ a) (hz : a + 8 ≤ z) {k0 : Nat} (hk0 : k0 < cs.length) : hz_Mt κ xX1_remove 1 0 0 [.ref a, .int (nI k0)] z M (fun r z2 M2 => none = r ∧ z = z2 ∧ frS [(a, a + 7)] M M2 ∧ coR M2 a (cs.eraseIdx k0)) := by
  refine hz_ent (lo := [(0, .ref a), (1, .int (nI k0))]) (by decide) (Nat.le_of_ble_eq_true rfl) rfl ?_
  obtain ⟨hO, hle, ⟨f7, h7⟩, f1, f2, f3, f4, f5, f6, g1, g2, g3, g4, g5, g6, hX⟩ := id h
  refine hz_iloadn (pc := 0) 1 (hz_dec kX1_remove 0 rfl) rfl ?_
  refine hz_z_lt (pc := 1) (tgt := 12) (hz_dec kX1_remove 1 rfl) (by decide) (by omega) ?_
  refine hz_iloadn (pc := 4) 1 (hz_dec kX1_remove 2 rfl) rfl ?_
  refine hz_aloadn (pc := 5) 0 (hz_dec kX1_remove 3 rfl) rfl ?_
  refine hz_get (pc := 6) (hz_dec kX1_remove 4 rfl) fo_X1_35 hO ha (by omega) rfl ?_
  refine hz_n_lt (pc := 9) (tgt := 13) (hz_dec kX1_remove 5 rfl) (by decide) (by omega) (by omega) (fun h1 => ?_) (fun h1 => ?_)
  · skip
    refine hz_aloadn (pc := 13) 0 (hz_dec kX1_remove 7 rfl) rfl ?_
    refine hz_dup (pc := 14) (hz_dec kX1_remove 8 rfl) rfl ?_
    refine hz_get (pc := 15) (hz_dec kX1_remove 9 rfl) fo_X1_35 hO ha (by omega) rfl ?_
    refine hz_iconst (pc := 18) (v := nI 1) (hz_dec kX1_remove 10 rfl) (by decide) ?_
    refine hz_subN (pc := 19) (hz_dec kX1_remove 11 rfl) (by omega) ?_
    refine hz_puti (pc := 20) (hz_dec kX1_remove 12 rfl) fo_X1_35 ft_X1_6 hO ha (by omega) (Nat.le_of_ble_eq_true rfl) ?_
    refine hz_mem (pc := 23) (M2 := (va_up M a (.inr (1, [.ref (a + 1), .ref (a + 2), .ref (a + 3), .ref (a + 4), .ref (a + 5), .ref (a + 6), .int (nI ((cs.length) - 1)), .ref (a + 7)])))) rfl ?_
    refine hz_aloadn (pc := 23) 0 (hz_dec kX1_remove 13 rfl) rfl ?_
    refine hz_get (pc := 24) (hz_dec kX1_remove 14 rfl) fo_X1_9 (va_up_self _ _ _) ha (by omega) rfl ?_
    refine hz_iloadn (pc := 27) 1 (hz_dec kX1_remove 15 rfl) rfl ?_
    refine hz_iconst (pc := 28) (v := nI 1) (hz_dec kX1_remove 16 rfl) (by decide) ?_
    refine hz_addN (pc := 29) (hz_dec kX1_remove 17 rfl) ?_
    refine hz_aloadn (pc := 30) 0 (hz_dec kX1_remove 18 rfl) rfl ?_
    refine hz_get (pc := 31) (hz_dec kX1_remove 19 rfl) fo_X1_9 (va_up_self _ _ _) ha (by omega) rfl ?_
    refine hz_iloadn (pc := 34) 1 (hz_dec kX1_remove 20 rfl) rfl ?_
    refine hz_aloadn (pc := 35) 0 (hz_dec kX1_remove 21 rfl) rfl ?_
    refine hz_get (pc := 36) (hz_dec kX1_remove 22 rfl) fo_X1_35 (va_up_self _ _ _) ha (by omega) rfl ?_
    refine hz_iloadn (pc := 39) 1 (hz_dec kX1_remove 23 rfl) rfl ?_
    refine hz_subN (pc := 40) (hz_dec kX1_remove 24 rfl) (by omega) ?_
    refine hz_copyL (pc := 41) (hz_dec kX1_remove 25 rfl) ac_X1_39 (hz_mne g1 (by omega)) (by omega) (by omega) (hz_mne g1 (by omega)) (by omega) (by omega) (by omega) (by omega) (by decide) (by decide) (by decide) (by decide) ?_
    refine hz_aloadn (pc := 44) 0 (hz_dec kX1_remove 26 rfl) rfl ?_
    refine hz_get (pc := 45) (hz_dec kX1_remove 27 rfl) fo_X1_15 (hz_mne (va_up_self _ _ _) (by omega)) ha (by omega) rfl ?_
    refine hz_iloadn (pc := 48) 1 (hz_dec kX1_remove 28 rfl) rfl ?_
    refine hz_iconst (pc := 49) (v := nI 1) (hz_dec kX1_remove 29 rfl) (by decide) ?_
    refine hz_addN (pc := 50) (hz_dec kX1_remove 30 rfl) ?_
    refine hz_aloadn (pc := 51) 0 (hz_dec kX1_remove 31 rfl) rfl ?_
    refine hz_get (pc := 52) (hz_dec kX1_remove 32 rfl) fo_X1_15 (hz_mne (va_up_self _ _ _) (by omega)) ha (by omega) rfl ?_
    refine hz_iloadn (pc := 55) 1 (hz_dec kX1_remove 33 rfl) rfl ?_
    refine hz_aloadn (pc := 56) 0 (hz_dec kX1_remove 34 rfl) rfl ?_
    refine hz_get (pc := 57) (hz_dec kX1_remove 35 rfl) fo_X1_35 (hz_mne (va_up_self _ _ _) (by omega)) ha (by omega) rfl ?_
    refine hz_iloadn (pc := 60) 1 (hz_dec kX1_remove 36 rfl) rfl ?_
    refine hz_subN (pc := 61) (hz_dec kX1_remove 37 rfl) (by omega) ?_
    refine hz_copyI (pc := 62) (hz_dec kX1_remove 38 rfl) ac_X1_39 (hz_mne (hz_mne g2 (by omega)) (by omega)) (by omega) (by omega) (hz_mne (hz_mne g2 (by omega)) (by omega)) (by omega) (by omega) (by omega) (by omega) (by decide) (by decide) (by decide) (by decide) ?_
    refine hz_aloadn (pc := 65) 0 (hz_dec kX1_remove 39 rfl) rfl ?_
    refine hz_get (pc := 66) (hz_dec kX1_remove 40 rfl) fo_X1_19 (hz_mne (hz_mne (va_up_self _ _ _) (by omega)) (by omega)) ha (by omega) rfl ?_
    refine hz_iloadn (pc := 69) 1 (hz_dec kX1_remove 41 rfl) rfl ?_
    refine hz_iconst (pc := 70) (v := nI 1) (hz_dec kX1_remove 42 rfl) (by decide) ?_
    refine hz_addN (pc := 71) (hz_dec kX1_remove 43 rfl) ?_
    refine hz_aloadn (pc := 72) 0 (hz_dec kX1_remove 44 rfl) rfl ?_
    refine hz_get (pc := 73) (hz_dec kX1_remove 45 rfl) fo_X1_19 (hz_mne (hz_mne (va_up_self _ _ _) (by omega)) (by omega)) ha (by omega) rfl ?_
    refine hz_iloadn (pc := 76) 1 (hz_dec kX1_remove 46 rfl) rfl ?_
    refine hz_aloadn (pc := 77) 0 (hz_dec kX1_remove 47 rfl) rfl ?_
    refine hz_get (pc := 78) (hz_dec kX1_remove 48 rfl) fo_X1_35 (hz_mne (hz_mne (va_up_self _ _ _) (by omega)) (by omega)) ha (by omega) rfl ?_
    refine hz_iloadn (pc := 81) 1 (hz_dec kX1_remove 49 rfl) rfl ?_
    refine hz_subN (pc := 82) (hz_dec kX1_remove 50 rfl) (by omega) ?_
    refine hz_copyL (pc := 83) (hz_dec kX1_remove 51 rfl) ac_X1_39 (hz_mne (hz_mne (hz_mne g3 (by omega)) (by omega)) (by omega)) (by omega) (by omega) (hz_mne (hz_mne (hz_mne g3 (by omega)) (by omega)) (by omega)) (by omega) (by omega) (by omega) (by omega) (by decide) (by decide) (by decide) (by decide) ?_
    refine hz_aloadn (pc := 86) 0 (hz_dec kX1_remove 52 rfl) rfl ?_
    refine hz_get (pc := 87) (hz_dec kX1_remove 53 rfl) fo_X1_22 (hz_mne (hz_mne (hz_mne (va_up_self _ _ _) (by omega)) (by omega)) (by omega)) ha (by omega) rfl ?_
    refine hz_iloadn (pc := 90) 1 (hz_dec kX1_remove 54 rfl) rfl ?_
    refine hz_iconst (pc := 91) (v := nI 1) (hz_dec kX1_remove 55 rfl) (by decide) ?_
    refine hz_addN (pc := 92) (hz_dec kX1_remove 56 rfl) ?_
    refine hz_aloadn (pc := 93) 0 (hz_dec kX1_remove 57 rfl) rfl ?_
    refine hz_get (pc := 94) (hz_dec kX1_remove 58 rfl) fo_X1_22 (hz_mne (hz_mne (hz_mne (va_up_self _ _ _) (by omega)) (by omega)) (by omega)) ha (by omega) rfl ?_
    refine hz_iloadn (pc := 97) 1 (hz_dec kX1_remove 59 rfl) rfl ?_
    refine hz_aloadn (pc := 98) 0 (hz_dec kX1_remove 60 rfl) rfl ?_
    refine hz_get (pc := 99) (hz_dec kX1_remove 61 rfl) fo_X1_35 (hz_mne (hz_mne (hz_mne (va_up_self _ _ _) (by omega)) (by omega)) (by omega)) ha (by omega) rfl ?_
    refine hz_iloadn (pc := 102) 1 (hz_dec kX1_remove 62 rfl) rfl ?_
    refine hz_subN (pc := 103) (hz_dec kX1_remove 63 rfl) (by omega) ?_
    refine hz_copyL (pc := 104) (hz_dec kX1_remove 64 rfl) ac_X1_39 (hz_mne (hz_mne (hz_mne (hz_mne g4 (by omega)) (by omega)) (by omega)) (by omega)) (by omega) (by omega) (hz_mne (hz_mne (hz_mne (hz_mne g4 (by omega)) (by omega)) (by omega)) (by omega)) (by omega) (by omega) (by omega) (by omega) (by decide) (by decide) (by decide) (by decide) ?_
    refine hz_aloadn (pc := 107) 0 (hz_dec kX1_remove 65 rfl) rfl ?_
    refine hz_get (pc := 108) (hz_dec kX1_remove 66 rfl) fo_X1_25 (hz_mne (hz_mne (hz_mne (hz_mne (va_up_self _ _ _) (by omega)) (by omega)) (by omega)) (by omega)) ha (by omega) rfl ?_
    refine hz_iloadn (pc := 111) 1 (hz_dec kX1_remove 67 rfl) rfl ?_
    refine hz_iconst (pc := 112) (v := nI 1) (hz_dec kX1_remove 68 rfl) (by decide) ?_
    refine hz_addN (pc := 113) (hz_dec kX1_remove 69 rfl) ?_
    refine hz_aloadn (pc := 114) 0 (hz_dec kX1_remove 70 rfl) rfl ?_
    refine hz_get (pc := 115) (hz_dec kX1_remove 71 rfl) fo_X1_25 (hz_mne (hz_mne (hz_mne (hz_mne (va_up_self _ _ _) (by omega)) (by omega)) (by omega)) (by omega)) ha (by omega) rfl ?_
    refine hz_iloadn (pc := 118) 1 (hz_dec kX1_remove 72 rfl) rfl ?_
    refine hz_aloadn (pc := 119) 0 (hz_dec kX1_remove 73 rfl) rfl ?_
    refine hz_get (pc := 120) (hz_dec kX1_remove 74 rfl) fo_X1_35 (hz_mne (hz_mne (hz_mne (hz_mne (va_up_self _ _ _) (by omega)) (by omega)) (by omega)) (by omega)) ha (by omega) rfl ?_
    refine hz_iloadn (pc := 123) 1 (hz_dec kX1_remove 75 rfl) rfl ?_
    refine hz_subN (pc := 124) (hz_dec kX1_remove 76 rfl) (by omega) ?_
    refine hz_copyI (pc := 125) (hz_dec kX1_remove 77 rfl) ac_X1_39 (hz_mne (hz_mne (hz_mne (hz_mne (hz_mne g5 (by omega)) (by omega)) (by omega)) (by omega)) (by omega)) (by omega) (by omega) (hz_mne (hz_mne (hz_mne (hz_mne (hz_mne g5 (by omega)) (by omega)) (by omega)) (by omega)) (by omega)) (by omega) (by omega) (by omega) (by omega) (by decide) (by decide) (by decide) (by decide) ?_
    refine hz_aloadn (pc := 128) 0 (hz_dec kX1_remove 78 rfl) rfl ?_
    refine hz_get (pc := 129) (hz_dec kX1_remove 79 rfl) fo_X1_28 (hz_mne (hz_mne (hz_mne (hz_mne (hz_mne (va_up_self _ _ _) (by omega)) (by omega)) (by omega)) (by omega)) (by omega)) ha (by omega) rfl ?_
    refine hz_iloadn (pc := 132) 1 (hz_dec kX1_remove 80 rfl) rfl ?_
    refine hz_iconst (pc := 133) (v := nI 1) (hz_dec kX1_remove 81 rfl) (by decide) ?_
    refine hz_addN (pc := 134) (hz_dec kX1_remove 82 rfl) ?_
    refine hz_aloadn (pc := 135) 0 (hz_dec kX1_remove 83 rfl) rfl ?_
    refine hz_get (pc := 136) (hz_dec kX1_remove 84 rfl) fo_X1_28 (hz_mne (hz_mne (hz_mne (hz_mne (hz_mne (va_up_self _ _ _) (by omega)) (by omega)) (by omega)) (by omega)) (by omega)) ha (by omega) rfl ?_
    refine hz_iloadn (pc := 139) 1 (hz_dec kX1_remove 85 rfl) rfl ?_
    refine hz_aloadn (pc := 140) 0 (hz_dec kX1_remove 86 rfl) rfl ?_
    refine hz_get (pc := 141) (hz_dec kX1_remove 87 rfl) fo_X1_35 (hz_mne (hz_mne (hz_mne (hz_mne (hz_mne (va_up_self _ _ _) (by omega)) (by omega)) (by omega)) (by omega)) (by omega)) ha (by omega) rfl ?_
    refine hz_iloadn (pc := 144) 1 (hz_dec kX1_remove 88 rfl) rfl ?_
    refine hz_subN (pc := 145) (hz_dec kX1_remove 89 rfl) (by omega) ?_
    refine hz_copyZ (pc := 146) (hz_dec kX1_remove 90 rfl) ac_X1_39 (hz_mne (hz_mne (hz_mne (hz_mne (hz_mne (hz_mne g6 (by omega)) (by omega)) (by omega)) (by omega)) (by omega)) (by omega)) (by omega) (by omega) (hz_mne (hz_mne (hz_mne (hz_mne (hz_mne (hz_mne g6 (by omega)) (by omega)) (by omega)) (by omega)) (by omega)) (by omega)) (by omega) (by omega) (by omega) (by omega) (by decide) (by decide) (by decide) (by decide) ?_
    refine hz_vret (pc := 149) (hz_dec kX1_remove 91 rfl) rfl ⟨rfl, rfl, (frS.upr (frS.upr (frS.upr (frS.upr (frS.upr (frS.upr (frS.up (by simp only [outS, and_true]; omega)) (by simp only [outS, and_true]; omega)) (by simp only [outS, and_true]; omega)) (by simp only [outS, and_true]; omega)) (by simp only [outS, and_true]; omega)) (by simp only [outS, and_true]; omega)) (by simp only [outS, and_true]; omega)), (hz_mne (hz_mne (hz_mne (hz_mne (hz_mne (hz_mne (va_up_self _ _ _) (by omega)) (by omega)) (by omega)) (by omega)) (by omega)) (by omega)).trans (by rw [co_erl hk0]), by rw [co_erl hk0]; omega, ⟨f7, (hz_mne (hz_mne (hz_mne (hz_mne (hz_mne (hz_mne (hz_mne h7 (by omega)) (by omega)) (by omega)) (by omega)) (by omega)) (by omega)) (by omega))⟩, _, _, _, _, _, _, (hz_mne (hz_mne (hz_mne (hz_mne (hz_mne (va_up_self _ _ _) (by omega)) (by omega)) (by omega)) (by omega)) (by omega)), (hz_mne (hz_mne (hz_mne (hz_mne (va_up_self _ _ _) (by omega)) (by omega)) (by omega)) (by omega)), (hz_mne (hz_mne (hz_mne (va_up_self _ _ _) (by omega)) (by omega)) (by omega)), (hz_mne (hz_mne (va_up_self _ _ _) (by omega)) (by omega)), (hz_mne (va_up_self _ _ _) (by omega)), (va_up_self _ _ _), coX_er hX hk0 (fun j hj => ?_) (fun j hj hj2 => ?_)⟩
    · simp only [va_cpy]
      simp only [if_neg (show ¬ (k0 ≤ j ∧ j < k0 + (cs.length - 1 - k0)) by omega)]
      exact ⟨trivial, trivial, trivial, trivial, trivial, trivial⟩
    · simp only [va_cpy]
      simp only [if_pos (show k0 ≤ j ∧ j < k0 + (cs.length - 1 - k0) by omega), show k0 + 1 + (j - k0) = j + 1 by omega]
      exact ⟨trivial, trivial, trivial, trivial, trivial, trivial⟩
  · skip
    exact absurd hk0 (by omega)
set_option maxHeartbeats 4000000 in
set_option maxRecDepth 100000 in
theorem c_coRem0 {κ : hz_C} {z : Nat} {M : hz_M} {a : Nat} {cs : List co_C} (h : coR M a cs) (ha : 8 ≤ a) (hz : a + 8 ≤ z) : hz_Mt κ xX1_remove 1 0 0 [.ref a, .int (-1)] z M (hz_ex none z M) := by
  refine hz_ent (lo := [(0, .ref a), (1, .int (-1))]) (by decide) (Nat.le_of_ble_eq_true rfl) rfl ?_
  obtain ⟨hO, hle, ⟨f7, h7⟩, f1, f2, f3, f4, f5, f6, g1, g2, g3, g4, g5, g6, hX⟩ := id h
  refine hz_iloadn (pc := 0) 1 (hz_dec kX1_remove 0 rfl) rfl ?_
  refine hz_if_lt (pc := 1) (tgt := 12) (hz_dec kX1_remove 1 rfl) (by decide) (fun h0 => ?_) (fun h0 => ?_)
  · skip
    exact hz_vret (pc := 12) (hz_dec kX1_remove 6 rfl) rfl ⟨rfl, rfl, rfl⟩
  · skip
    exact absurd (by decide) h0
set_option maxHeartbeats 4000000 in
set_option maxRecDepth 100000 in
theorem c_coAp_1 {κ : hz_C} {z : Nat} {M0 : hz_M} {a : Nat} {cs0 : List co_C} (ha : 8 ≤ a) (hz : a + 8 ≤ z) {b n at_ : Nat} {f : Nat → Int32} {t : by_L} (hB : M0 b = .inl (1, n, .inl f)) (hb8 : 8 ≤ b) (hbz : b < z) (hn : n < 2 ^ 29) (ht : isA f at_ t) (hat : at_ + t.length ≤ n) (hW : txW t) (hbo : b < a ∨ a + 8 ≤ b) {iD : Int64} {ht_ : Nat} {P : hz_P} (K : ∀ M, frS [(a, a + 7)] M0 M → coR M a (coSp t cs0 (txI t)) → hz_W κ xX1_apply 2 0 0 P 0 0 65 [(7, .int (nI (txO t))), (6, .int (nI (txI t))), (0, .ref a), (1, .ref b), (2, .int (nI at_)), (3, .long iD), (5, .int (nI ht_))] [] z M) : ∀ k i M, k = txI t - i → i ≤ txI t → frS [(a, a + 7)] M0 M → coR M a (coSp t cs0 i) → hz_W κ xX1_apply 2 0 0 P 0 0 19 [(8, .int (nI i)), (7, .int (nI (txO t))), (6, .int (nI (txI t))), (0, .ref a), (1, .ref b), (2, .int (nI at_)), (3, .long iD), (5, .int (nI ht_))] [] z M := by
  intro k
  induction k using Nat.strongRecOn with
  | ind k ih =>
  intro i M hk hi hfr h
  obtain ⟨w1, w2, w3, w4, w5⟩ := txW_sz hW
  have hB1 : M b = .inl (1, n, .inl f) := (hfr b (by simp only [outS, and_true]; omega)).trans hB
  have hoa : 73 * txI t ≤ tx_oa (txI t) := by unfold tx_oa; split <;> omega
  obtain ⟨hO, hle, ⟨f7, h7⟩, f1, f2, f3, f4, f5, f6, g1, g2, g3, g4, g5, g6, hX⟩ := id h
  refine hz_iload (pc := 19) 0 (hz_dec kX1_apply 12 rfl) rfl ?_
  refine hz_iload (pc := 21) 2 (hz_dec kX1_apply 13 rfl) rfl ?_
  refine hz_n_ge (pc := 23) (tgt := 65) (hz_dec kX1_apply 14 rfl) (by decide) (by omega) (by omega) (fun h1 => ?_) (fun h1 => ?_)
  · skip
    have e : i = txI t := by omega
    subst e
    refine hz_pick (pc := 65) [1, 2, 3, 4, 5, 6, 7] rfl ?_
    exact K M hfr h
  · skip
    refine hz_iloadn (pc := 26) 5 (hz_dec kX1_apply 15 rfl) rfl ?_
    refine hz_iload (pc := 27) 0 (hz_dec kX1_apply 16 rfl) rfl ?_
    refine hz_xS (pc := 29) (As := [.int (nI at_), .int (nI i)]) (st := []) (hz_dec kX1_apply 17 rfl) co_X1_51 sc_X0_inputAt (c_inputAt) rfl (by decide) ⟨Nat.le_refl _, Nat.le_refl _⟩ (Nat.le_of_ble_eq_true rfl) rfl ?_
    refine hz_istore (pc := 32) (i := 9) (lo2 := [(9, .int (nI (at_ + 2 + i * 73))), (8, .int (nI i)), (7, .int (nI (txO t))), (6, .int (nI (txI t))), (0, .ref a), (1, .ref b), (2, .int (nI at_)), (3, .long iD), (5, .int (nI ht_))]) (hz_dec kX1_apply 18 rfl) (by decide) rfl ?_
    refine hz_aloadn (pc := 34) 4 (hz_dec kX1_apply 19 rfl) rfl ?_
    refine hz_aloadn (pc := 35) 4 (hz_dec kX1_apply 20 rfl) rfl ?_
    refine hz_aloadn (pc := 36) 5 (hz_dec kX1_apply 21 rfl) rfl ?_
    refine hz_iload (pc := 37) 0 (hz_dec kX1_apply 22 rfl) rfl ?_
    refine hz_bipush (pc := 39) (v := nI 8) (hz_dec kX1_apply 23 rfl) (by decide) ?_
    refine hz_xS (pc := 41) (As := [.ref b, .int (nI (at_ + 2 + i * 73)), .int (nI 8)]) (st := [.ref a, .ref a]) (hz_dec kX1_apply 24 rfl) co_X1_55 sc_X0_number (c_number hB1 hb8 hbz (by omega) (by omega)) rfl (by decide) ⟨Nat.le_refl _, Nat.le_refl _⟩ (Nat.le_of_ble_eq_true rfl) rfl ?_
    refine hz_eql (pc := 44) (show _ = inId t i by rw [show at_ + 2 + i * 73 = at_ + (2 + 73 * i) by omega]; exact num_of ht (by omega)) ?_
    refine hz_aloadn (pc := 44) 5 (hz_dec kX1_apply 25 rfl) rfl ?_
    refine hz_iload (pc := 45) 0 (hz_dec kX1_apply 26 rfl) rfl ?_
    refine hz_bipush (pc := 47) (v := nI 8) (hz_dec kX1_apply 27 rfl) (by decide) ?_
    refine hz_addN (pc := 49) (hz_dec kX1_apply 28 rfl) ?_
    refine hz_xS (pc := 50) (As := [.ref b, .int (nI ((at_ + 2 + i * 73) + 8))]) (st := [.long (inId t i), .ref a, .ref a]) (hz_dec kX1_apply 29 rfl) co_X1_45 sc_X0_one (c_one hB1 hb8 hbz (by omega) (by omega)) rfl (by decide) ⟨Nat.le_refl _, Nat.le_refl _⟩ (Nat.le_of_ble_eq_true rfl) rfl ?_
    refine hz_eqi (pc := 53) (show _ = inPl t i by rw [show at_ + 2 + i * 73 + 8 = at_ + (2 + 73 * i + 8) by omega, ht (2 + 73 * i + 8) (by omega)]; rfl) ?_
    refine hz_xV (pc := 53) (a := a) (As := [.long (inId t i), .int (inPl t i)]) (st := [.ref a]) (hz_dec kX1_apply 30 rfl) co_X1_59 im_X1_indexOf se_X1_indexOf rfl hO ha (by omega) (c_coIx h ha hz) rfl (by decide) ⟨Nat.le_refl _, Nat.le_refl _⟩ (Nat.le_of_ble_eq_true rfl) rfl ?_
    by_cases c : coF (coSp t cs0 i) (inId t i) (inPl t i) < (coSp t cs0 i).length
    · skip
      refine hz_eqi (pc := 56) (show _ = nI (coF (coSp t cs0 i) (inId t i) (inPl t i)) from if_pos c) ?_
      refine hz_callV (pc := 56) (a := a) (As := [.int (nI (coF (coSp t cs0 i) (inId t i) (inPl t i)))]) (st := []) (hz_dec kX1_apply 31 rfl) co_X1_63 im_X1_remove se_X1_remove rfl hO ha (by omega) (c_coRem h ha hz c) rfl (by decide) ⟨Nat.le_refl _, Nat.le_refl _⟩ (Nat.le_of_ble_eq_true rfl) rfl (fun r9 z9 M2 hp9 => ?_)
      obtain ⟨rfl, rfl, hf2, h2⟩ := hp9
      refine hz_incN (pc := 59) (i := 8) (lo2 := [(8, .int (nI (i + 1))), (9, .int (nI (at_ + 2 + i * 73))), (7, .int (nI (txO t))), (6, .int (nI (txI t))), (0, .ref a), (1, .ref b), (2, .int (nI at_)), (3, .long iD), (5, .int (nI ht_))]) 1 (hz_dec kX1_apply 32 rfl) rfl (by decide) rfl ?_
      refine hz_goto (pc := 62) (tgt := 19) (hz_dec kX1_apply 33 rfl) (by decide) ?_
      refine hz_pick (pc := 19) [0, 2, 3, 4, 5, 6, 7, 8] rfl ?_
      refine ih (txI t - (i + 1)) (by omega) (i + 1) _ rfl (by omega) (hfr.tr hf2) ?_
      show coR _ a (coDrop _ _ _)
      unfold coDrop
      rw [if_pos c]
      exact h2
    · skip
      refine hz_eqi (pc := 56) (show _ = (-1 : Int32) from if_neg c) ?_
      refine hz_xV (pc := 56) (a := a) (As := [.int (-1)]) (st := []) (hz_dec kX1_apply 31 rfl) co_X1_63 im_X1_remove se_X1_remove rfl hO ha (by omega) (c_coRem0 h ha hz) rfl (by decide) ⟨Nat.le_refl _, Nat.le_refl _⟩ (Nat.le_of_ble_eq_true rfl) rfl ?_
      refine hz_incN (pc := 59) (i := 8) (lo2 := [(8, .int (nI (i + 1))), (9, .int (nI (at_ + 2 + i * 73))), (7, .int (nI (txO t))), (6, .int (nI (txI t))), (0, .ref a), (1, .ref b), (2, .int (nI at_)), (3, .long iD), (5, .int (nI ht_))]) 1 (hz_dec kX1_apply 32 rfl) rfl (by decide) rfl ?_
      refine hz_goto (pc := 62) (tgt := 19) (hz_dec kX1_apply 33 rfl) (by decide) ?_
      refine hz_pick (pc := 19) [0, 2, 3, 4, 5, 6, 7, 8] rfl ?_
      refine ih (txI t - (i + 1)) (by omega) (i + 1) _ rfl (by omega) hfr ?_
      show coR _ a (coDrop _ _ _)
      unfold coDrop
      rw [if_neg c]
      exact h
set_option maxHeartbeats 4000000 in
set_option maxRecDepth 100000 in
theorem c_coAp_2 {κ : hz_C} {z : Nat} {M0 : hz_M} {a : Nat} {cs1 : List co_C} (ha : 8 ≤ a) (hz : a + 8 ≤ z) {b n at_ : Nat} {f : Nat → Int32} {t : by_L} (hB : M0 b = .inl (1, n, .inl f)) (hb8 : 8 ≤ b) (hbz : b < z) (hn : n < 2 ^ 29) (ht : isA f at_ t) (hat : at_ + t.length ≤ n) (hW : txW t) (hbo : b < a ∨ a + 8 ≤ b) {iD : Int64} {ht_ : Nat} (hrm : cs1.length + txO t ≤ 400) : ∀ k i M, k = txO t - i → i ≤ txO t → frS [(a, a + 7)] M0 M → coR M a (coAd t iD ht_ cs1 i) → hz_W κ xX1_apply 2 0 0 (fun r z2 M2 => none = r ∧ z = z2 ∧ frS [(a, a + 7)] M0 M2 ∧ coR M2 a (coAd t iD ht_ cs1 (txO t))) 0 0 68 [(8, .int (nI i)), (7, .int (nI (txO t))), (6, .int (nI (txI t))), (0, .ref a), (1, .ref b), (2, .int (nI at_)), (3, .long iD), (5, .int (nI ht_))] [] z M := by
  intro k
  induction k using Nat.strongRecOn with
  | ind k ih =>
  intro i M hk hi hfr h
  obtain ⟨w1, w2, w3, w4, w5⟩ := txW_sz hW
  have hB1 : M b = .inl (1, n, .inl f) := (hfr b (by simp only [outS, and_true]; omega)).trans hB
  have hlen := coAd_len t iD ht_ cs1 i
  obtain ⟨hO, hle, ⟨f7, h7⟩, f1, f2, f3, f4, f5, f6, g1, g2, g3, g4, g5, g6, hX⟩ := id h
  refine hz_iload (pc := 68) 0 (hz_dec kX1_apply 36 rfl) rfl ?_
  refine hz_iload (pc := 70) 1 (hz_dec kX1_apply 37 rfl) rfl ?_
  refine hz_n_ge (pc := 72) (tgt := 199) (hz_dec kX1_apply 38 rfl) (by decide) (by omega) (by omega) (fun h1 => ?_) (fun h1 => ?_)
  · skip
    have e : i = txO t := by omega
    subst e
    exact hz_vret (pc := 199) (hz_dec kX1_apply 104 rfl) rfl ⟨rfl, rfl, hfr, h⟩
  · skip
    refine hz_aloadn (pc := 75) 3 (hz_dec kX1_apply 39 rfl) rfl ?_
    refine hz_get (pc := 76) (hz_dec kX1_apply 40 rfl) fo_X1_35 hO ha (by omega) rfl ?_
    refine hz_sipush (pc := 79) (v := nI 400) (hz_dec kX1_apply 41 rfl) (by decide) ?_
    refine hz_n_ge (pc := 82) (tgt := 199) (hz_dec kX1_apply 42 rfl) (by decide) (by omega) (by omega) (fun h2 => ?_) (fun h2 => ?_)
    · skip
      exact absurd h2 (by omega)
    · skip
      refine hz_iloadn (pc := 85) 5 (hz_dec kX1_apply 43 rfl) rfl ?_
      refine hz_iload (pc := 86) 2 (hz_dec kX1_apply 44 rfl) rfl ?_
      refine hz_iload (pc := 88) 0 (hz_dec kX1_apply 45 rfl) rfl ?_
      refine hz_xS (pc := 90) (As := [.int (nI at_), .int (nI (txI t)), .int (nI i)]) (st := []) (hz_dec kX1_apply 46 rfl) co_X1_67 sc_X0_outputAt (c_outputAt (by omega)) rfl (by decide) ⟨Nat.le_refl _, Nat.le_refl _⟩ (Nat.le_of_ble_eq_true rfl) rfl ?_
      refine hz_istore (pc := 93) (i := 9) (lo2 := [(9, .int (nI (at_ + 2 + tx_oa (txI t) + i * 16))), (8, .int (nI i)), (7, .int (nI (txO t))), (6, .int (nI (txI t))), (0, .ref a), (1, .ref b), (2, .int (nI at_)), (3, .long iD), (5, .int (nI ht_))]) (hz_dec kX1_apply 47 rfl) (by decide) rfl ?_
      refine hz_aloadn (pc := 95) 4 (hz_dec kX1_apply 48 rfl) rfl ?_
      refine hz_get (pc := 96) (hz_dec kX1_apply 49 rfl) fo_X1_9 hO ha (by omega) rfl ?_
      refine hz_aloadn (pc := 99) 4 (hz_dec kX1_apply 50 rfl) rfl ?_
      refine hz_get (pc := 100) (hz_dec kX1_apply 51 rfl) fo_X1_35 hO ha (by omega) rfl ?_
      refine hz_lloadn (pc := 103) 7 (hz_dec kX1_apply 52 rfl) rfl ?_
      refine hz_last (pc := 104) (j := (coAd t iD ht_ cs1 i).length) (hz_dec kX1_apply 53 rfl) g1 (by omega) (by omega) rfl (by omega) (by decide) ?_
      refine hz_aloadn (pc := 105) 4 (hz_dec kX1_apply 54 rfl) rfl ?_
      refine hz_get (pc := 106) (hz_dec kX1_apply 55 rfl) fo_X1_15 (hz_mne hO (by omega)) ha (by omega) rfl ?_
      refine hz_aloadn (pc := 109) 4 (hz_dec kX1_apply 56 rfl) rfl ?_
      refine hz_get (pc := 110) (hz_dec kX1_apply 57 rfl) fo_X1_35 (hz_mne hO (by omega)) ha (by omega) rfl ?_
      refine hz_iload (pc := 113) 1 (hz_dec kX1_apply 58 rfl) rfl ?_
      refine hz_iast (pc := 115) (j := (coAd t iD ht_ cs1 i).length) (hz_dec kX1_apply 59 rfl) (hz_mne g2 (by omega)) (by omega) (by omega) rfl (by omega) (by decide) ?_
      refine hz_aloadn (pc := 116) 4 (hz_dec kX1_apply 60 rfl) rfl ?_
      refine hz_get (pc := 117) (hz_dec kX1_apply 61 rfl) fo_X1_19 (hz_mne (hz_mne hO (by omega)) (by omega)) ha (by omega) rfl ?_
      refine hz_aloadn (pc := 120) 4 (hz_dec kX1_apply 62 rfl) rfl ?_
      refine hz_get (pc := 121) (hz_dec kX1_apply 63 rfl) fo_X1_35 (hz_mne (hz_mne hO (by omega)) (by omega)) ha (by omega) rfl ?_
      refine hz_aloadn (pc := 124) 5 (hz_dec kX1_apply 64 rfl) rfl ?_
      refine hz_iload (pc := 125) 0 (hz_dec kX1_apply 65 rfl) rfl ?_
      refine hz_bipush (pc := 127) (v := nI 8) (hz_dec kX1_apply 66 rfl) (by decide) ?_
      refine hz_xS (pc := 129) (As := [.ref b, .int (nI (at_ + 2 + tx_oa (txI t) + i * 16)), .int (nI 8)]) (st := [.int (nI ((coAd t iD ht_ cs1 i).length)), .ref (a + 3)]) (hz_dec kX1_apply 67 rfl) co_X1_55 sc_X0_number (c_number (hz_mne (hz_mne hB1 (by omega)) (by omega)) hb8 hbz (by omega) (by omega)) rfl (by decide) ⟨Nat.le_refl _, Nat.le_refl _⟩ (Nat.le_of_ble_eq_true rfl) rfl ?_
      refine hz_eql (pc := 132) (show _ = bn_num (lf t) (ouA t i) 8 by rw [show at_ + 2 + tx_oa (txI t) + i * 16 = at_ + ouA t i by unfold ouA; omega]; exact num_of ht (by unfold ouA; omega)) ?_
      refine hz_last (pc := 132) (j := (coAd t iD ht_ cs1 i).length) (hz_dec kX1_apply 68 rfl) (hz_mne (hz_mne g3 (by omega)) (by omega)) (by omega) (by omega) rfl (by omega) (by decide) ?_
      refine hz_aloadn (pc := 133) 4 (hz_dec kX1_apply 69 rfl) rfl ?_
      refine hz_get (pc := 134) (hz_dec kX1_apply 70 rfl) fo_X1_22 (hz_mne (hz_mne (hz_mne hO (by omega)) (by omega)) (by omega)) ha (by omega) rfl ?_
      refine hz_aloadn (pc := 137) 4 (hz_dec kX1_apply 71 rfl) rfl ?_
      refine hz_get (pc := 138) (hz_dec kX1_apply 72 rfl) fo_X1_35 (hz_mne (hz_mne (hz_mne hO (by omega)) (by omega)) (by omega)) ha (by omega) rfl ?_
      refine hz_aloadn (pc := 141) 5 (hz_dec kX1_apply 73 rfl) rfl ?_
      refine hz_iload (pc := 142) 0 (hz_dec kX1_apply 74 rfl) rfl ?_
      refine hz_bipush (pc := 144) (v := nI 8) (hz_dec kX1_apply 75 rfl) (by decide) ?_
      refine hz_addN (pc := 146) (hz_dec kX1_apply 76 rfl) ?_
      refine hz_bipush (pc := 147) (v := nI 8) (hz_dec kX1_apply 77 rfl) (by decide) ?_
      refine hz_xS (pc := 149) (As := [.ref b, .int (nI ((at_ + 2 + tx_oa (txI t) + i * 16) + 8)), .int (nI 8)]) (st := [.int (nI ((coAd t iD ht_ cs1 i).length)), .ref (a + 4)]) (hz_dec kX1_apply 78 rfl) co_X1_55 sc_X0_number (c_number (hz_mne (hz_mne (hz_mne hB1 (by omega)) (by omega)) (by omega)) hb8 hbz (by omega) (by omega)) rfl (by decide) ⟨Nat.le_refl _, Nat.le_refl _⟩ (Nat.le_of_ble_eq_true rfl) rfl ?_
      refine hz_eql (pc := 152) (show _ = bn_num (lf t) (ouA t i + 8) 8 by rw [show at_ + 2 + tx_oa (txI t) + i * 16 + 8 = at_ + (ouA t i + 8) by unfold ouA; omega]; exact num_of ht (by unfold ouA; omega)) ?_
      refine hz_last (pc := 152) (j := (coAd t iD ht_ cs1 i).length) (hz_dec kX1_apply 79 rfl) (hz_mne (hz_mne (hz_mne g4 (by omega)) (by omega)) (by omega)) (by omega) (by omega) rfl (by omega) (by decide) ?_
      refine hz_aloadn (pc := 153) 4 (hz_dec kX1_apply 80 rfl) rfl ?_
      refine hz_get (pc := 154) (hz_dec kX1_apply 81 rfl) fo_X1_25 (hz_mne (hz_mne (hz_mne (hz_mne hO (by omega)) (by omega)) (by omega)) (by omega)) ha (by omega) rfl ?_
      refine hz_aloadn (pc := 157) 4 (hz_dec kX1_apply 82 rfl) rfl ?_
      refine hz_get (pc := 158) (hz_dec kX1_apply 83 rfl) fo_X1_35 (hz_mne (hz_mne (hz_mne (hz_mne hO (by omega)) (by omega)) (by omega)) (by omega)) ha (by omega) rfl ?_
      refine hz_iload (pc := 161) 8 (hz_dec kX1_apply 84 rfl) rfl ?_
      refine hz_iast (pc := 163) (j := (coAd t iD ht_ cs1 i).length) (hz_dec kX1_apply 85 rfl) (hz_mne (hz_mne (hz_mne (hz_mne g5 (by omega)) (by omega)) (by omega)) (by omega)) (by omega) (by omega) rfl (by omega) (by decide) ?_
      refine hz_aloadn (pc := 164) 4 (hz_dec kX1_apply 86 rfl) rfl ?_
      refine hz_get (pc := 165) (hz_dec kX1_apply 87 rfl) fo_X1_28 (hz_mne (hz_mne (hz_mne (hz_mne (hz_mne hO (by omega)) (by omega)) (by omega)) (by omega)) (by omega)) ha (by omega) rfl ?_
      refine hz_aloadn (pc := 168) 4 (hz_dec kX1_apply 88 rfl) rfl ?_
      refine hz_get (pc := 169) (hz_dec kX1_apply 89 rfl) fo_X1_35 (hz_mne (hz_mne (hz_mne (hz_mne (hz_mne hO (by omega)) (by omega)) (by omega)) (by omega)) (by omega)) ha (by omega) rfl ?_
      refine hz_iload (pc := 172) 3 (hz_dec kX1_apply 90 rfl) rfl ?_
      refine hz_z_ne (pc := 174) (tgt := 181) (hz_dec kX1_apply 91 rfl) (by decide) (by omega) (fun h4 => ?_) (fun h4 => ?_)
      · skip
        refine hz_iconst (pc := 181) (v := nI 0) (hz_dec kX1_apply 94 rfl) (by decide) ?_
        refine hz_zast (pc := 182) (j := (coAd t iD ht_ cs1 i).length) (hz_dec kX1_apply 95 rfl) (hz_mne (hz_mne (hz_mne (hz_mne (hz_mne g6 (by omega)) (by omega)) (by omega)) (by omega)) (by omega)) (by omega) (by omega) rfl (by omega) (by decide) (Or.inl rfl) ?_
        refine hz_aloadn (pc := 183) 4 (hz_dec kX1_apply 96 rfl) rfl ?_
        refine hz_dup (pc := 184) (hz_dec kX1_apply 97 rfl) rfl ?_
        refine hz_get (pc := 185) (hz_dec kX1_apply 98 rfl) fo_X1_35 (hz_mne (hz_mne (hz_mne (hz_mne (hz_mne (hz_mne hO (by omega)) (by omega)) (by omega)) (by omega)) (by omega)) (by omega)) ha (by omega) rfl ?_
        refine hz_iconst (pc := 188) (v := nI 1) (hz_dec kX1_apply 99 rfl) (by decide) ?_
        refine hz_addN (pc := 189) (hz_dec kX1_apply 100 rfl) ?_
        refine hz_puti (pc := 190) (hz_dec kX1_apply 101 rfl) fo_X1_35 ft_X1_6 (hz_mne (hz_mne (hz_mne (hz_mne (hz_mne (hz_mne hO (by omega)) (by omega)) (by omega)) (by omega)) (by omega)) (by omega)) ha (by omega) (Nat.le_of_ble_eq_true rfl) ?_
        refine hz_mem (pc := 193) (M2 := (va_up (va_up (va_up (va_up (va_up (va_up (va_up M (a + 1) (.inl (2, 400, .inr (.inl (vp_updL f1 ((coAd t iD ht_ cs1 i).length) (iD)))))) (a + 2) (.inl (0, 400, .inl (upd f2 ((coAd t iD ht_ cs1 i).length) ((nI (i))))))) (a + 3) (.inl (2, 400, .inr (.inl (vp_updL f3 ((coAd t iD ht_ cs1 i).length) (bn_num (lf t) (ouA t i) 8)))))) (a + 4) (.inl (2, 400, .inr (.inl (vp_updL f4 ((coAd t iD ht_ cs1 i).length) (bn_num (lf t) (ouA t i + 8) 8)))))) (a + 5) (.inl (0, 400, .inl (upd f5 ((coAd t iD ht_ cs1 i).length) ((nI (ht_))))))) (a + 6) (.inl (3, 400, .inl (upd f6 ((coAd t iD ht_ cs1 i).length) ((nI (0))))))) a (.inr (1, [.ref (a + 1), .ref (a + 2), .ref (a + 3), .ref (a + 4), .ref (a + 5), .ref (a + 6), .int (nI (((coAd t iD ht_ cs1 i).length) + 1)), .ref (a + 7)])))) rfl ?_
        refine hz_incN (pc := 193) (i := 8) (lo2 := [(8, .int (nI (i + 1))), (9, .int (nI (at_ + 2 + tx_oa (txI t) + i * 16))), (7, .int (nI (txO t))), (6, .int (nI (txI t))), (0, .ref a), (1, .ref b), (2, .int (nI at_)), (3, .long iD), (5, .int (nI ht_))]) 1 (hz_dec kX1_apply 102 rfl) rfl (by decide) rfl ?_
        refine hz_goto (pc := 196) (tgt := 68) (hz_dec kX1_apply 103 rfl) (by decide) ?_
        refine hz_pick (pc := 68) [0, 2, 3, 4, 5, 6, 7, 8] rfl ?_
        refine ih (txO t - (i + 1)) (by omega) (i + 1) _ rfl (by omega) (frS.upr (frS.upr (frS.upr (frS.upr (frS.upr (frS.upr (frS.upr hfr (by simp only [outS, and_true]; omega)) (by simp only [outS, and_true]; omega)) (by simp only [outS, and_true]; omega)) (by simp only [outS, and_true]; omega)) (by simp only [outS, and_true]; omega)) (by simp only [outS, and_true]; omega)) (by simp only [outS, and_true]; omega)) ⟨(va_up_self _ _ _).trans (by show _ = Sum.inr (1, [_, _, _, _, _, _, Value.int (nI (coAd t iD ht_ cs1 i ++ [_]).length), _]); rw [List.length_append]; rfl), (by rw [coAd_len]; omega), ⟨f7, (hz_mne (hz_mne (hz_mne (hz_mne (hz_mne (hz_mne (hz_mne h7 (by omega)) (by omega)) (by omega)) (by omega)) (by omega)) (by omega)) (by omega))⟩, _, _, _, _, _, _, (hz_mne (hz_mne (hz_mne (hz_mne (hz_mne (hz_mne (va_up_self _ _ _) (by omega)) (by omega)) (by omega)) (by omega)) (by omega)) (by omega)), (hz_mne (hz_mne (hz_mne (hz_mne (hz_mne (va_up_self _ _ _) (by omega)) (by omega)) (by omega)) (by omega)) (by omega)), (hz_mne (hz_mne (hz_mne (hz_mne (va_up_self _ _ _) (by omega)) (by omega)) (by omega)) (by omega)), (hz_mne (hz_mne (hz_mne (va_up_self _ _ _) (by omega)) (by omega)) (by omega)), (hz_mne (hz_mne (va_up_self _ _ _) (by omega)) (by omega)), (hz_mne (va_up_self _ _ _) (by omega)), coX_app hX rfl rfl ?_⟩
        rw [decide_eq_false (by omega)]; rfl
      · skip
        refine hz_iconst (pc := 177) (v := nI 1) (hz_dec kX1_apply 92 rfl) (by decide) ?_
        refine hz_goto (pc := 178) (tgt := 182) (hz_dec kX1_apply 93 rfl) (by decide) ?_
        refine hz_zast (pc := 182) (j := (coAd t iD ht_ cs1 i).length) (hz_dec kX1_apply 95 rfl) (hz_mne (hz_mne (hz_mne (hz_mne (hz_mne g6 (by omega)) (by omega)) (by omega)) (by omega)) (by omega)) (by omega) (by omega) rfl (by omega) (by decide) (Or.inr rfl) ?_
        refine hz_aloadn (pc := 183) 4 (hz_dec kX1_apply 96 rfl) rfl ?_
        refine hz_dup (pc := 184) (hz_dec kX1_apply 97 rfl) rfl ?_
        refine hz_get (pc := 185) (hz_dec kX1_apply 98 rfl) fo_X1_35 (hz_mne (hz_mne (hz_mne (hz_mne (hz_mne (hz_mne hO (by omega)) (by omega)) (by omega)) (by omega)) (by omega)) (by omega)) ha (by omega) rfl ?_
        refine hz_iconst (pc := 188) (v := nI 1) (hz_dec kX1_apply 99 rfl) (by decide) ?_
        refine hz_addN (pc := 189) (hz_dec kX1_apply 100 rfl) ?_
        refine hz_puti (pc := 190) (hz_dec kX1_apply 101 rfl) fo_X1_35 ft_X1_6 (hz_mne (hz_mne (hz_mne (hz_mne (hz_mne (hz_mne hO (by omega)) (by omega)) (by omega)) (by omega)) (by omega)) (by omega)) ha (by omega) (Nat.le_of_ble_eq_true rfl) ?_
        refine hz_mem (pc := 193) (M2 := (va_up (va_up (va_up (va_up (va_up (va_up (va_up M (a + 1) (.inl (2, 400, .inr (.inl (vp_updL f1 ((coAd t iD ht_ cs1 i).length) (iD)))))) (a + 2) (.inl (0, 400, .inl (upd f2 ((coAd t iD ht_ cs1 i).length) ((nI (i))))))) (a + 3) (.inl (2, 400, .inr (.inl (vp_updL f3 ((coAd t iD ht_ cs1 i).length) (bn_num (lf t) (ouA t i) 8)))))) (a + 4) (.inl (2, 400, .inr (.inl (vp_updL f4 ((coAd t iD ht_ cs1 i).length) (bn_num (lf t) (ouA t i + 8) 8)))))) (a + 5) (.inl (0, 400, .inl (upd f5 ((coAd t iD ht_ cs1 i).length) ((nI (ht_))))))) (a + 6) (.inl (3, 400, .inl (upd f6 ((coAd t iD ht_ cs1 i).length) ((nI (1))))))) a (.inr (1, [.ref (a + 1), .ref (a + 2), .ref (a + 3), .ref (a + 4), .ref (a + 5), .ref (a + 6), .int (nI (((coAd t iD ht_ cs1 i).length) + 1)), .ref (a + 7)])))) rfl ?_
        refine hz_incN (pc := 193) (i := 8) (lo2 := [(8, .int (nI (i + 1))), (9, .int (nI (at_ + 2 + tx_oa (txI t) + i * 16))), (7, .int (nI (txO t))), (6, .int (nI (txI t))), (0, .ref a), (1, .ref b), (2, .int (nI at_)), (3, .long iD), (5, .int (nI ht_))]) 1 (hz_dec kX1_apply 102 rfl) rfl (by decide) rfl ?_
        refine hz_goto (pc := 196) (tgt := 68) (hz_dec kX1_apply 103 rfl) (by decide) ?_
        refine hz_pick (pc := 68) [0, 2, 3, 4, 5, 6, 7, 8] rfl ?_
        refine ih (txO t - (i + 1)) (by omega) (i + 1) _ rfl (by omega) (frS.upr (frS.upr (frS.upr (frS.upr (frS.upr (frS.upr (frS.upr hfr (by simp only [outS, and_true]; omega)) (by simp only [outS, and_true]; omega)) (by simp only [outS, and_true]; omega)) (by simp only [outS, and_true]; omega)) (by simp only [outS, and_true]; omega)) (by simp only [outS, and_true]; omega)) (by simp only [outS, and_true]; omega)) ⟨(va_up_self _ _ _).trans (by show _ = Sum.inr (1, [_, _, _, _, _, _, Value.int (nI (coAd t iD ht_ cs1 i ++ [_]).length), _]); rw [List.length_append]; rfl), (by rw [coAd_len]; omega), ⟨f7, (hz_mne (hz_mne (hz_mne (hz_mne (hz_mne (hz_mne (hz_mne h7 (by omega)) (by omega)) (by omega)) (by omega)) (by omega)) (by omega)) (by omega))⟩, _, _, _, _, _, _, (hz_mne (hz_mne (hz_mne (hz_mne (hz_mne (hz_mne (va_up_self _ _ _) (by omega)) (by omega)) (by omega)) (by omega)) (by omega)) (by omega)), (hz_mne (hz_mne (hz_mne (hz_mne (hz_mne (va_up_self _ _ _) (by omega)) (by omega)) (by omega)) (by omega)) (by omega)), (hz_mne (hz_mne (hz_mne (hz_mne (va_up_self _ _ _) (by omega)) (by omega)) (by omega)) (by omega)), (hz_mne (hz_mne (hz_mne (va_up_self _ _ _) (by omega)) (by omega)) (by omega)), (hz_mne (hz_mne (va_up_self _ _ _) (by omega)) (by omega)), (hz_mne (va_up_self _ _ _) (by omega)), coX_app hX rfl rfl ?_⟩
        rw [decide_eq_true h4]; rfl
set_option maxHeartbeats 4000000 in
set_option maxRecDepth 100000 in
theorem c_coAp {κ : hz_C} {z : Nat} {M : hz_M} {a : Nat} {cs : List co_C} (h : coR M a cs) (ha : 8 ≤ a) (hz : a + 8 ≤ z) {b n at_ : Nat} {f : Nat → Int32} {t : by_L} (hB : M b = .inl (1, n, .inl f)) (hb8 : 8 ≤ b) (hbz : b < z) (hn : n < 2 ^ 29) (ht : isA f at_ t) (hat : at_ + t.length ≤ n) (hW : txW t) (hbo : b < a ∨ a + 8 ≤ b) {iD : Int64} {ht_ : Nat} (hrm : cs.length + 4 ≤ 400) : hz_Mt κ xX1_apply 2 0 0 [.ref a, .ref b, .int (nI at_), .long iD, .int (nI ht_)] z M (fun r z2 M2 => none = r ∧ z = z2 ∧ frS [(a, a + 7)] M M2 ∧ coR M2 a (coAp cs t iD ht_)) := by
  refine hz_ent (lo := [(0, .ref a), (1, .ref b), (2, .int (nI at_)), (3, .long iD), (5, .int (nI ht_))]) (by decide) (Nat.le_of_ble_eq_true rfl) rfl ?_
  obtain ⟨w1, w2, w3, w4, w5⟩ := txW_sz hW
  obtain ⟨hO, hle, ⟨f7, h7⟩, f1, f2, f3, f4, f5, f6, g1, g2, g3, g4, g5, g6, hX⟩ := id h
  refine hz_aloadn (pc := 0) 1 (hz_dec kX1_apply 0 rfl) rfl ?_
  refine hz_iloadn (pc := 1) 2 (hz_dec kX1_apply 1 rfl) rfl ?_
  refine hz_xS (pc := 2) (As := [.ref b, .int (nI at_)]) (st := []) (hz_dec kX1_apply 2 rfl) co_X1_45 sc_X0_one (c_one hB hb8 hbz (by omega) (by omega)) rfl (by decide) ⟨Nat.le_refl _, Nat.le_refl _⟩ (Nat.le_of_ble_eq_true rfl) rfl ?_
  refine hz_eqi (pc := 5) (show _ = nI (txI t) by rw [show at_ = at_ + 0 from rfl, ht 0 (by omega)]; rfl) ?_
  refine hz_istore (pc := 5) (i := 6) (lo2 := [(6, .int (nI (txI t))), (0, .ref a), (1, .ref b), (2, .int (nI at_)), (3, .long iD), (5, .int (nI ht_))]) (hz_dec kX1_apply 3 rfl) (by decide) rfl ?_
  refine hz_aloadn (pc := 7) 2 (hz_dec kX1_apply 4 rfl) rfl ?_
  refine hz_iloadn (pc := 8) 3 (hz_dec kX1_apply 5 rfl) rfl ?_
  refine hz_iconst (pc := 9) (v := nI 1) (hz_dec kX1_apply 6 rfl) (by decide) ?_
  refine hz_addN (pc := 10) (hz_dec kX1_apply 7 rfl) ?_
  refine hz_xS (pc := 11) (As := [.ref b, .int (nI (at_ + 1))]) (st := []) (hz_dec kX1_apply 8 rfl) co_X1_45 sc_X0_one (c_one hB hb8 hbz (by omega) (by omega)) rfl (by decide) ⟨Nat.le_refl _, Nat.le_refl _⟩ (Nat.le_of_ble_eq_true rfl) rfl ?_
  refine hz_eqi (pc := 14) (show _ = nI (txO t) by rw [ht 1 (by omega)]; rfl) ?_
  refine hz_istore (pc := 14) (i := 7) (lo2 := [(7, .int (nI (txO t))), (6, .int (nI (txI t))), (0, .ref a), (1, .ref b), (2, .int (nI at_)), (3, .long iD), (5, .int (nI ht_))]) (hz_dec kX1_apply 9 rfl) (by decide) rfl ?_
  refine hz_iconst (pc := 16) (v := nI 0) (hz_dec kX1_apply 10 rfl) (by decide) ?_
  refine hz_istore (pc := 17) (i := 8) (lo2 := [(8, .int (nI 0)), (7, .int (nI (txO t))), (6, .int (nI (txI t))), (0, .ref a), (1, .ref b), (2, .int (nI at_)), (3, .long iD), (5, .int (nI ht_))]) (hz_dec kX1_apply 11 rfl) (by decide) rfl ?_
  refine hz_pick (pc := 19) [0, 1, 2, 3, 4, 5, 6, 7] rfl ?_
  refine c_coAp_1 (M0 := M) (cs0 := cs) ha hz hB hb8 hbz hn ht hat hW hbo (fun M1 hf1 h1 => ?_) (txI t) 0 M rfl (by omega) frS.rf h
  refine hz_iconst (pc := 65) (v := nI 0) (hz_dec kX1_apply 34 rfl) (by decide) ?_
  refine hz_istore (pc := 66) (i := 8) (lo2 := [(8, .int (nI 0)), (7, .int (nI (txO t))), (6, .int (nI (txI t))), (0, .ref a), (1, .ref b), (2, .int (nI at_)), (3, .long iD), (5, .int (nI ht_))]) (hz_dec kX1_apply 35 rfl) (by decide) rfl ?_
  refine hz_pick (pc := 68) [0, 1, 2, 3, 4, 5, 6, 7] rfl ?_
  have hlen := coSp_len t cs (txI t)
  exact c_coAp_2 (M0 := M) (cs1 := coSp t cs (txI t)) ha hz hB hb8 hbz hn ht hat hW hbo (by omega) (txO t) 0 M1 rfl (by omega) hf1 h1
