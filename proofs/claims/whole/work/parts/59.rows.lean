/-! rows of bytes, one behind the other -/
def rowL (L : List by_L) (k : Nat) : by_L := L.getD k []
def offL (L : List by_L) : Nat → Nat
  | 0 => 0
  | k + 1 => offL L k + (rowL L k).length
def rwX (f g : Nat → Int32) (L : List by_L) : Prop := (∀ k, k ≤ L.length → g k = nI (offL L k)) ∧ ∀ k, k < L.length → isA f (offL L k) (rowL L k)
def rwR (M : hz_M) (a nb mo : Nat) (L : List by_L) : Prop := M a = .inr (7, [.ref (a + 1), .ref (a + 2), .int (nI L.length)]) ∧ L.length ≤ mo ∧ offL L L.length ≤ nb ∧ ∃ f g : Nat → Int32, M (a + 1) = .inl (1, nb, .inl f) ∧ M (a + 2) = .inl (0, mo + 1, .inl g) ∧ rwX f g L
theorem rwR.fr {M M2 : hz_M} {a nb mo : Nat} {L : List by_L} (h : rwR M a nb mo L) (e : ∀ q, a ≤ q → q < a + 3 → M2 q = M q) : rwR M2 a nb mo L := by
  obtain ⟨h0, h1, h2, f, g, hf, hg, hx⟩ := h
  exact ⟨(e a (by omega) (by omega)).trans h0, h1, h2, f, g, (e (a + 1) (by omega) (by omega)).trans hf, (e (a + 2) (by omega) (by omega)).trans hg, hx⟩
theorem offL_mono (L : List by_L) : ∀ k j, j ≤ k → offL L j ≤ offL L k := by
  intro k
  induction k with
  | zero => intro j hj; rw [show j = 0 by omega]; exact Nat.le_refl _
  | succ k ih =>
    intro j hj
    rcases (show j = k + 1 ∨ j ≤ k by omega) with rfl | c
    · exact Nat.le_refl _
    · exact Nat.le_trans (ih j c) (Nat.le_add_right _ _)
theorem offL_c {L K : List by_L} : ∀ k, (∀ j, j < k → rowL L j = rowL K j) → offL L k = offL K k := by
  intro k
  induction k with
  | zero => intro _; rfl
  | succ k ih =>
    intro h
    simp only [offL, ih (fun j hj => h j (by omega)), h k (by omega)]
theorem rowL_app {L : List by_L} {t : by_L} {j : Nat} (h : j < L.length) : rowL (L ++ [t]) j = rowL L j := by
  unfold rowL
  rw [List.getD_eq_getElem?_getD, List.getD_eq_getElem?_getD, List.getElem?_append_left h]
theorem rowL_last {L : List by_L} {t : by_L} : rowL (L ++ [t]) L.length = t := by
  unfold rowL
  rw [List.getD_eq_getElem?_getD, List.getElem?_append_right (Nat.le_refl _), Nat.sub_self]
  rfl
theorem offL_app {L : List by_L} {t : by_L} {j : Nat} (h : j ≤ L.length) : offL (L ++ [t]) j = offL L j := offL_c j (fun i hi => rowL_app (by omega))
theorem rowL_er {L : List by_L} {k j : Nat} : rowL (L.eraseIdx k) j = if j < k then rowL L j else rowL L (j + 1) := by
  unfold rowL
  rw [List.getD_eq_getElem?_getD, List.getElem?_eraseIdx]
  split
  · rw [List.getD_eq_getElem?_getD]
  · rw [List.getD_eq_getElem?_getD]
theorem offL_er {L : List by_L} {k : Nat} : ∀ j, offL (L.eraseIdx k) j = if j ≤ k then offL L j else offL L (j + 1) - (rowL L k).length := by
  intro j
  induction j with
  | zero => rw [if_pos (Nat.zero_le _)]; rfl
  | succ j ih =>
    simp only [offL, ih, rowL_er]
    by_cases c : j < k
    · rw [if_pos (by omega), if_pos c, if_pos (by omega)]
    · rw [if_neg c, if_neg (show ¬ j + 1 ≤ k by omega)]
      by_cases c2 : j ≤ k
      · have e : j = k := by omega
        subst e
        rw [if_pos c2]
        omega
      · rw [if_neg c2]
        have m := offL_mono L j (k + 1) (by omega)
        simp only [offL] at m
        omega
theorem er_len {L : List by_L} {k : Nat} (h : k < L.length) : (L.eraseIdx k).length = L.length - 1 := by rw [List.length_eraseIdx, if_pos h]
theorem offL_ero {L : List by_L} {k : Nat} (h : k < L.length) : offL (L.eraseIdx k) (L.eraseIdx k).length + (rowL L k).length = offL L L.length := by
  rw [er_len h, offL_er]
  have m := offL_mono L L.length (k + 1) (by omega)
  simp only [offL] at m
  by_cases c : L.length - 1 ≤ k
  · have e : k = L.length - 1 := by omega
    rw [if_pos c]
    have q : offL L (L.length - 1 + 1) = offL L (L.length - 1) + (rowL L (L.length - 1)).length := rfl
    rw [show L.length - 1 + 1 = L.length by omega] at q
    rw [e]
    omega
  · rw [if_neg c, show L.length - 1 + 1 = L.length by omega]
    omega
set_option maxHeartbeats 4000000 in
set_option maxRecDepth 100000 in
theorem c_lenOf {κ : hz_C} {z : Nat} {M : hz_M} {a nb mo : Nat} {L : List by_L} (h : rwR M a nb mo L) (ha : 8 ≤ a) (hz : a + 3 ≤ z) (hnb : nb < 2 ^ 29) (hmo : mo < 2 ^ 29) {k : Nat} (hk : k < L.length) : hz_Mt κ xX7_lengthOf 0 0 0 [.ref a, .int (nI k)] z M (hz_ex (some (.int (nI (rowL L k).length))) z M) := by
  refine hz_ent (lo := [(0, .ref a), (1, .int (nI k))]) (by decide) (Nat.le_of_ble_eq_true rfl) rfl ?_
  obtain ⟨hO, hle, hoff, f, g, hf, hg, hX⟩ := id h
  have em := offL_mono L (k + 1) k (by omega)
  have es : offL L (k + 1) = offL L k + (rowL L k).length := rfl
  refine hz_iloadn (pc := 0) 1 (hz_dec kX7_lengthOf 0 rfl) rfl ?_
  refine hz_z_lt (pc := 1) (tgt := 12) (hz_dec kX7_lengthOf 1 rfl) (by decide) (by omega) ?_
  refine hz_iloadn (pc := 4) 1 (hz_dec kX7_lengthOf 2 rfl) rfl ?_
  refine hz_aloadn (pc := 5) 0 (hz_dec kX7_lengthOf 3 rfl) rfl ?_
  refine hz_get (pc := 6) (hz_dec kX7_lengthOf 4 rfl) fo_X7_19 hO ha (by omega) rfl ?_
  refine hz_n_lt (pc := 9) (tgt := 16) (hz_dec kX7_lengthOf 5 rfl) (by decide) (by omega) (by omega) (fun h1 => ?_) (fun h1 => ?_)
  · skip
    refine hz_aloadn (pc := 16) 0 (hz_dec kX7_lengthOf 8 rfl) rfl ?_
    refine hz_get (pc := 17) (hz_dec kX7_lengthOf 9 rfl) fo_X7_15 hO ha (by omega) rfl ?_
    refine hz_iloadn (pc := 20) 1 (hz_dec kX7_lengthOf 10 rfl) rfl ?_
    refine hz_iconst (pc := 21) (v := nI 1) (hz_dec kX7_lengthOf 11 rfl) (by decide) ?_
    refine hz_addN (pc := 22) (hz_dec kX7_lengthOf 12 rfl) ?_
    refine hz_iald (pc := 23) (j := k + 1) (hz_dec kX7_lengthOf 13 rfl) hg (by omega) (by omega) rfl (by omega) (by omega) ?_
    refine hz_eqi (pc := 24) (hX.1 (k + 1) (by omega)) ?_
    refine hz_aloadn (pc := 24) 0 (hz_dec kX7_lengthOf 14 rfl) rfl ?_
    refine hz_get (pc := 25) (hz_dec kX7_lengthOf 15 rfl) fo_X7_15 hO ha (by omega) rfl ?_
    refine hz_iloadn (pc := 28) 1 (hz_dec kX7_lengthOf 16 rfl) rfl ?_
    refine hz_iald (pc := 29) (j := k) (hz_dec kX7_lengthOf 17 rfl) hg (by omega) (by omega) rfl (by omega) (by omega) ?_
    refine hz_eqi (pc := 30) (hX.1 (k) (by omega)) ?_
    refine hz_subN (pc := 30) (hz_dec kX7_lengthOf 18 rfl) (by omega) ?_
    exact hz_iret (pc := 31) (hz_dec kX7_lengthOf 19 rfl) rfl ⟨by rw [es, Nat.add_sub_cancel_left], rfl, rfl⟩
  · skip
    exact absurd hk (by omega)
set_option maxHeartbeats 4000000 in
set_option maxRecDepth 100000 in
theorem c_lenOf0 {κ : hz_C} {z : Nat} {M : hz_M} {a nb mo : Nat} {L : List by_L} (h : rwR M a nb mo L) (ha : 8 ≤ a) (hz : a + 3 ≤ z) (hnb : nb < 2 ^ 29) (hmo : mo < 2 ^ 29) {k : Int32} (hk : k < 0 ∨ ¬ k < nI L.length) : hz_Mt κ xX7_lengthOf 0 0 0 [.ref a, .int k] z M (hz_ex (some (.int (nI 0))) z M) := by
  refine hz_ent (lo := [(0, .ref a), (1, .int k)]) (by decide) (Nat.le_of_ble_eq_true rfl) rfl ?_
  obtain ⟨hO, hle, hoff, f, g, hf, hg, hX⟩ := id h
  refine hz_iloadn (pc := 0) 1 (hz_dec kX7_lengthOf 0 rfl) rfl ?_
  refine hz_if_lt (pc := 1) (tgt := 12) (hz_dec kX7_lengthOf 1 rfl) (by decide) (fun h0 => ?_) (fun h0 => ?_)
  · skip
    refine hz_iconst (pc := 12) (v := nI 0) (hz_dec kX7_lengthOf 6 rfl) (by decide) ?_
    refine hz_goto (pc := 13) (tgt := 31) (hz_dec kX7_lengthOf 7 rfl) (by decide) ?_
    exact hz_iret (pc := 31) (hz_dec kX7_lengthOf 19 rfl) rfl ⟨rfl, rfl, rfl⟩
  · skip
    refine hz_iloadn (pc := 4) 1 (hz_dec kX7_lengthOf 2 rfl) rfl ?_
    refine hz_aloadn (pc := 5) 0 (hz_dec kX7_lengthOf 3 rfl) rfl ?_
    refine hz_get (pc := 6) (hz_dec kX7_lengthOf 4 rfl) fo_X7_19 hO ha (by omega) rfl ?_
    refine hz_icmp_lt (pc := 9) (tgt := 16) (hz_dec kX7_lengthOf 5 rfl) (by decide) (fun h1 => ?_) (fun h1 => ?_)
    · skip
      exact absurd h1 (hk.elim (fun q => absurd q h0) id)
    · skip
      refine hz_iconst (pc := 12) (v := nI 0) (hz_dec kX7_lengthOf 6 rfl) (by decide) ?_
      refine hz_goto (pc := 13) (tgt := 31) (hz_dec kX7_lengthOf 7 rfl) (by decide) ?_
      exact hz_iret (pc := 31) (hz_dec kX7_lengthOf 19 rfl) rfl ⟨rfl, rfl, rfl⟩
set_option maxHeartbeats 4000000 in
set_option maxRecDepth 100000 in
theorem c_placeOf {κ : hz_C} {z : Nat} {M : hz_M} {a nb mo : Nat} {L : List by_L} (h : rwR M a nb mo L) (ha : 8 ≤ a) (hz : a + 3 ≤ z) (hnb : nb < 2 ^ 29) (hmo : mo < 2 ^ 29) {k i : Nat} (hk : k < L.length) (hi : i < (rowL L k).length) : hz_Mt κ xX7_placeOf 1 0 0 [.ref a, .int (nI k), .int (nI i)] z M (hz_ex (some (.int (nI (offL L k + i)))) z M) := by
  refine hz_ent (lo := [(0, .ref a), (1, .int (nI k)), (2, .int (nI i))]) (by decide) (Nat.le_of_ble_eq_true rfl) rfl ?_
  obtain ⟨hO, hle, hoff, f, g, hf, hg, hX⟩ := id h
  have em := offL_mono L L.length (k + 1) (by omega)
  have es : offL L (k + 1) = offL L k + (rowL L k).length := rfl
  refine hz_iloadn (pc := 0) 2 (hz_dec kX7_placeOf 0 rfl) rfl ?_
  refine hz_z_lt (pc := 1) (tgt := 13) (hz_dec kX7_placeOf 1 rfl) (by decide) (by omega) ?_
  refine hz_iloadn (pc := 4) 2 (hz_dec kX7_placeOf 2 rfl) rfl ?_
  refine hz_aloadn (pc := 5) 0 (hz_dec kX7_placeOf 3 rfl) rfl ?_
  refine hz_iloadn (pc := 6) 1 (hz_dec kX7_placeOf 4 rfl) rfl ?_
  refine hz_xV (pc := 7) (a := a) (As := [.int (nI k)]) (st := [.int (nI i)]) (hz_dec kX7_placeOf 5 rfl) co_X7_23 im_X7_lengthOf se_X7_lengthOf rfl hO ha (by omega) (c_lenOf h ha hz hnb hmo hk) rfl (by decide) ⟨Nat.le_refl _, Nat.le_refl _⟩ (Nat.le_of_ble_eq_true rfl) rfl ?_
  refine hz_n_lt (pc := 10) (tgt := 17) (hz_dec kX7_placeOf 6 rfl) (by decide) (by omega) (by omega) (fun h1 => ?_) (fun h1 => ?_)
  · skip
    refine hz_aloadn (pc := 17) 0 (hz_dec kX7_placeOf 9 rfl) rfl ?_
    refine hz_get (pc := 18) (hz_dec kX7_placeOf 10 rfl) fo_X7_15 hO ha (by omega) rfl ?_
    refine hz_iloadn (pc := 21) 1 (hz_dec kX7_placeOf 11 rfl) rfl ?_
    refine hz_iald (pc := 22) (j := k) (hz_dec kX7_placeOf 12 rfl) hg (by omega) (by omega) rfl (by omega) (by omega) ?_
    refine hz_eqi (pc := 23) (hX.1 (k) (by omega)) ?_
    refine hz_iloadn (pc := 23) 2 (hz_dec kX7_placeOf 13 rfl) rfl ?_
    refine hz_addN (pc := 24) (hz_dec kX7_placeOf 14 rfl) ?_
    exact hz_iret (pc := 25) (hz_dec kX7_placeOf 15 rfl) rfl ⟨rfl, rfl, rfl⟩
  · skip
    exact absurd hi (by omega)
set_option maxHeartbeats 4000000 in
set_option maxRecDepth 100000 in
theorem c_placeOf0 {κ : hz_C} {z : Nat} {M : hz_M} {a nb mo : Nat} {L : List by_L} (h : rwR M a nb mo L) (ha : 8 ≤ a) (hz : a + 3 ≤ z) (hnb : nb < 2 ^ 29) (hmo : mo < 2 ^ 29) {k i : Int32} (hk : ∀ j : Nat, j < L.length → k = nI j → i < 0 ∨ ¬ i < nI (rowL L j).length) : hz_Mt κ xX7_placeOf 1 0 0 [.ref a, .int k, .int i] z M (hz_ex (some (.int (-1))) z M) := by
  refine hz_ent (lo := [(0, .ref a), (1, .int k), (2, .int i)]) (by decide) (Nat.le_of_ble_eq_true rfl) rfl ?_
  obtain ⟨hO, hle, hoff, f, g, hf, hg, hX⟩ := id h
  refine hz_iloadn (pc := 0) 2 (hz_dec kX7_placeOf 0 rfl) rfl ?_
  refine hz_if_lt (pc := 1) (tgt := 13) (hz_dec kX7_placeOf 1 rfl) (by decide) (fun h0 => ?_) (fun h0 => ?_)
  · skip
    refine hz_iconst (pc := 13) (v := (-1)) (hz_dec kX7_placeOf 7 rfl) (by decide) ?_
    refine hz_goto (pc := 14) (tgt := 25) (hz_dec kX7_placeOf 8 rfl) (by decide) ?_
    exact hz_iret (pc := 25) (hz_dec kX7_placeOf 15 rfl) rfl ⟨rfl, rfl, rfl⟩
  · skip
    refine hz_iloadn (pc := 4) 2 (hz_dec kX7_placeOf 2 rfl) rfl ?_
    refine hz_aloadn (pc := 5) 0 (hz_dec kX7_placeOf 3 rfl) rfl ?_
    refine hz_iloadn (pc := 6) 1 (hz_dec kX7_placeOf 4 rfl) rfl ?_
    by_cases c : k < 0 ∨ ¬ k < nI L.length
    · skip
      refine hz_xV (pc := 7) (a := a) (As := [.int k]) (st := [.int i]) (hz_dec kX7_placeOf 5 rfl) co_X7_23 im_X7_lengthOf se_X7_lengthOf rfl hO ha (by omega) (c_lenOf0 h ha hz hnb hmo c) rfl (by decide) ⟨Nat.le_refl _, Nat.le_refl _⟩ (Nat.le_of_ble_eq_true rfl) rfl ?_
      refine hz_icmp_lt (pc := 10) (tgt := 17) (hz_dec kX7_placeOf 6 rfl) (by decide) (fun h1 => ?_) (fun h1 => ?_)
      · skip
        exact absurd h1 h0
      · skip
        refine hz_iconst (pc := 13) (v := (-1)) (hz_dec kX7_placeOf 7 rfl) (by decide) ?_
        refine hz_goto (pc := 14) (tgt := 25) (hz_dec kX7_placeOf 8 rfl) (by decide) ?_
        exact hz_iret (pc := 25) (hz_dec kX7_placeOf 15 rfl) rfl ⟨rfl, rfl, rfl⟩
    · skip
      obtain ⟨j, hj, rfl⟩ := i_nat (fun q => c (Or.inl q)) (Decidable.not_not.mp (fun q => c (Or.inr q))) (by omega)
      have em := offL_mono L L.length (j + 1) (by omega)
      have es : offL L (j + 1) = offL L j + (rowL L j).length := rfl
      refine hz_xV (pc := 7) (a := a) (As := [.int (nI j)]) (st := [.int i]) (hz_dec kX7_placeOf 5 rfl) co_X7_23 im_X7_lengthOf se_X7_lengthOf rfl hO ha (by omega) (c_lenOf h ha hz hnb hmo hj) rfl (by decide) ⟨Nat.le_refl _, Nat.le_refl _⟩ (Nat.le_of_ble_eq_true rfl) rfl ?_
      refine hz_icmp_lt (pc := 10) (tgt := 17) (hz_dec kX7_placeOf 6 rfl) (by decide) (fun h1 => ?_) (fun h1 => ?_)
      · skip
        exact absurd h1 ((hk j hj rfl).elim (fun q => absurd q h0) id)
      · skip
        refine hz_iconst (pc := 13) (v := (-1)) (hz_dec kX7_placeOf 7 rfl) (by decide) ?_
        refine hz_goto (pc := 14) (tgt := 25) (hz_dec kX7_placeOf 8 rfl) (by decide) ?_
        exact hz_iret (pc := 25) (hz_dec kX7_placeOf 15 rfl) rfl ⟨rfl, rfl, rfl⟩
set_option maxHeartbeats 4000000 in
set_option maxRecDepth 100000 in
theorem c_rwAddF {κ : hz_C} {z : Nat} {M : hz_M} {a nb mo : Nat} {L : List by_L} (h : rwR M a nb mo L) (ha : 8 ≤ a) (hz : a + 3 ≤ z) (hnb : nb < 2 ^ 29) (hmo : mo < 2 ^ 29) {b n at_ : Nat} {fb : Nat → Int32} {t : by_L} (hB : M b = .inl (1, n, .inl fb)) (hb8 : 8 ≤ b) (hbz : b < z) (hn : n < 2 ^ 29) (ht : isA fb at_ t) (hat : at_ + t.length ≤ n) (htn : t.length ≤ nb) (hno : L.length = mo ∨ nb < offL L L.length + t.length) : hz_Mt κ xX7_add 1 0 0 [.ref a, .ref b, .int (nI at_), .int (nI t.length)] z M (hz_ex (some (.int (nI 0))) z M) := by
  refine hz_ent (lo := [(0, .ref a), (1, .ref b), (2, .int (nI at_)), (3, .int (nI (t.length)))]) (by decide) (Nat.le_of_ble_eq_true rfl) rfl ?_
  obtain ⟨hO, hle, hoff, f, g, hf, hg, hX⟩ := id h
  refine hz_iloadn (pc := 0) 3 (hz_dec kX7_add 0 rfl) rfl ?_
  refine hz_z_lt (pc := 1) (tgt := 16) (hz_dec kX7_add 1 rfl) (by decide) (by omega) ?_
  refine hz_iloadn (pc := 4) 2 (hz_dec kX7_add 2 rfl) rfl ?_
  refine hz_z_lt (pc := 5) (tgt := 16) (hz_dec kX7_add 3 rfl) (by decide) (by omega) ?_
  refine hz_iloadn (pc := 8) 2 (hz_dec kX7_add 4 rfl) rfl ?_
  refine hz_aloadn (pc := 9) 1 (hz_dec kX7_add 5 rfl) rfl ?_
  refine hz_alen (pc := 10) (hz_dec kX7_add 6 rfl) hB (by decide) hb8 hbz ?_
  refine hz_iloadn (pc := 11) 3 (hz_dec kX7_add 7 rfl) rfl ?_
  refine hz_subN (pc := 12) (hz_dec kX7_add 8 rfl) (by omega) ?_
  refine hz_n_le (pc := 13) (tgt := 18) (hz_dec kX7_add 9 rfl) (by decide) (by omega) (by omega) (fun h0 => ?_) (fun h0 => ?_)
  · skip
    refine hz_aloadn (pc := 18) 0 (hz_dec kX7_add 12 rfl) rfl ?_
    refine hz_get (pc := 19) (hz_dec kX7_add 13 rfl) fo_X7_19 hO ha (by omega) rfl ?_
    refine hz_aloadn (pc := 22) 0 (hz_dec kX7_add 14 rfl) rfl ?_
    refine hz_get (pc := 23) (hz_dec kX7_add 15 rfl) fo_X7_15 hO ha (by omega) rfl ?_
    refine hz_alen (pc := 26) (hz_dec kX7_add 16 rfl) hg (by decide) (by omega) (by omega) ?_
    refine hz_iconst (pc := 27) (v := nI 1) (hz_dec kX7_add 17 rfl) (by decide) ?_
    refine hz_subN (pc := 28) (hz_dec kX7_add 18 rfl) (by omega) ?_
    refine hz_n_ge (pc := 29) (tgt := 51) (hz_dec kX7_add 19 rfl) (by decide) (by omega) (by omega) (fun h1 => ?_) (fun h1 => ?_)
    · skip
      refine hz_iconst (pc := 51) (v := nI 0) (hz_dec kX7_add 31 rfl) (by decide) ?_
      exact hz_zret (pc := 52) (hz_dec kX7_add 32 rfl) rfl rfl ⟨rfl, rfl, rfl⟩
    · skip
      refine hz_aloadn (pc := 32) 0 (hz_dec kX7_add 20 rfl) rfl ?_
      refine hz_get (pc := 33) (hz_dec kX7_add 21 rfl) fo_X7_15 hO ha (by omega) rfl ?_
      refine hz_aloadn (pc := 36) 0 (hz_dec kX7_add 22 rfl) rfl ?_
      refine hz_get (pc := 37) (hz_dec kX7_add 23 rfl) fo_X7_19 hO ha (by omega) rfl ?_
      refine hz_iald (pc := 40) (j := L.length) (hz_dec kX7_add 24 rfl) hg (by omega) (by omega) rfl (by omega) (by omega) ?_
      refine hz_eqi (pc := 41) (hX.1 (L.length) (by omega)) ?_
      refine hz_aloadn (pc := 41) 0 (hz_dec kX7_add 25 rfl) rfl ?_
      refine hz_get (pc := 42) (hz_dec kX7_add 26 rfl) fo_X7_9 hO ha (by omega) rfl ?_
      refine hz_alen (pc := 45) (hz_dec kX7_add 27 rfl) hf (by decide) (by omega) (by omega) ?_
      refine hz_iloadn (pc := 46) 3 (hz_dec kX7_add 28 rfl) rfl ?_
      refine hz_subN (pc := 47) (hz_dec kX7_add 29 rfl) (by omega) ?_
      refine hz_n_le (pc := 48) (tgt := 53) (hz_dec kX7_add 30 rfl) (by decide) (by omega) (by omega) (fun h2 => ?_) (fun h2 => ?_)
      · skip
        exact absurd hno (by omega)
      · skip
        refine hz_iconst (pc := 51) (v := nI 0) (hz_dec kX7_add 31 rfl) (by decide) ?_
        exact hz_zret (pc := 52) (hz_dec kX7_add 32 rfl) rfl rfl ⟨rfl, rfl, rfl⟩
  · skip
    exact absurd h0 (by omega)
set_option maxHeartbeats 4000000 in
set_option maxRecDepth 100000 in
theorem c_rwAdd {κ : hz_C} {z : Nat} {M : hz_M} {a nb mo : Nat} {L : List by_L} (h : rwR M a nb mo L) (ha : 8 ≤ a) (hz : a + 3 ≤ z) (hnb : nb < 2 ^ 29) (hmo : mo < 2 ^ 29) {b n at_ : Nat} {fb : Nat → Int32} {t : by_L} (hB : M b = .inl (1, n, .inl fb)) (hb8 : 8 ≤ b) (hbz : b < z) (hn : n < 2 ^ 29) (ht : isA fb at_ t) (hat : at_ + t.length ≤ n) (htn : t.length ≤ nb) (hro : L.length < mo) (hrb : offL L L.length + t.length ≤ nb) : hz_Mt κ xX7_add 1 0 0 [.ref a, .ref b, .int (nI at_), .int (nI t.length)] z M (fun r z2 M2 => some (.int (nI 1)) = r ∧ z = z2 ∧ frS [(a, a + 3)] M M2 ∧ rwR M2 a nb mo (L ++ [t])) := by
  refine hz_ent (lo := [(0, .ref a), (1, .ref b), (2, .int (nI at_)), (3, .int (nI (t.length)))]) (by decide) (Nat.le_of_ble_eq_true rfl) rfl ?_
  obtain ⟨hO, hle, hoff, f, g, hf, hg, hX⟩ := id h
  refine hz_iloadn (pc := 0) 3 (hz_dec kX7_add 0 rfl) rfl ?_
  refine hz_z_lt (pc := 1) (tgt := 16) (hz_dec kX7_add 1 rfl) (by decide) (by omega) ?_
  refine hz_iloadn (pc := 4) 2 (hz_dec kX7_add 2 rfl) rfl ?_
  refine hz_z_lt (pc := 5) (tgt := 16) (hz_dec kX7_add 3 rfl) (by decide) (by omega) ?_
  refine hz_iloadn (pc := 8) 2 (hz_dec kX7_add 4 rfl) rfl ?_
  refine hz_aloadn (pc := 9) 1 (hz_dec kX7_add 5 rfl) rfl ?_
  refine hz_alen (pc := 10) (hz_dec kX7_add 6 rfl) hB (by decide) hb8 hbz ?_
  refine hz_iloadn (pc := 11) 3 (hz_dec kX7_add 7 rfl) rfl ?_
  refine hz_subN (pc := 12) (hz_dec kX7_add 8 rfl) (by omega) ?_
  refine hz_n_le (pc := 13) (tgt := 18) (hz_dec kX7_add 9 rfl) (by decide) (by omega) (by omega) (fun h0 => ?_) (fun h0 => ?_)
  · skip
    refine hz_aloadn (pc := 18) 0 (hz_dec kX7_add 12 rfl) rfl ?_
    refine hz_get (pc := 19) (hz_dec kX7_add 13 rfl) fo_X7_19 hO ha (by omega) rfl ?_
    refine hz_aloadn (pc := 22) 0 (hz_dec kX7_add 14 rfl) rfl ?_
    refine hz_get (pc := 23) (hz_dec kX7_add 15 rfl) fo_X7_15 hO ha (by omega) rfl ?_
    refine hz_alen (pc := 26) (hz_dec kX7_add 16 rfl) hg (by decide) (by omega) (by omega) ?_
    refine hz_iconst (pc := 27) (v := nI 1) (hz_dec kX7_add 17 rfl) (by decide) ?_
    refine hz_subN (pc := 28) (hz_dec kX7_add 18 rfl) (by omega) ?_
    refine hz_n_ge (pc := 29) (tgt := 51) (hz_dec kX7_add 19 rfl) (by decide) (by omega) (by omega) (fun h1 => ?_) (fun h1 => ?_)
    · skip
      exact absurd h1 (by omega)
    · skip
      refine hz_aloadn (pc := 32) 0 (hz_dec kX7_add 20 rfl) rfl ?_
      refine hz_get (pc := 33) (hz_dec kX7_add 21 rfl) fo_X7_15 hO ha (by omega) rfl ?_
      refine hz_aloadn (pc := 36) 0 (hz_dec kX7_add 22 rfl) rfl ?_
      refine hz_get (pc := 37) (hz_dec kX7_add 23 rfl) fo_X7_19 hO ha (by omega) rfl ?_
      refine hz_iald (pc := 40) (j := L.length) (hz_dec kX7_add 24 rfl) hg (by omega) (by omega) rfl (by omega) (by omega) ?_
      refine hz_eqi (pc := 41) (hX.1 (L.length) (by omega)) ?_
      refine hz_aloadn (pc := 41) 0 (hz_dec kX7_add 25 rfl) rfl ?_
      refine hz_get (pc := 42) (hz_dec kX7_add 26 rfl) fo_X7_9 hO ha (by omega) rfl ?_
      refine hz_alen (pc := 45) (hz_dec kX7_add 27 rfl) hf (by decide) (by omega) (by omega) ?_
      refine hz_iloadn (pc := 46) 3 (hz_dec kX7_add 28 rfl) rfl ?_
      refine hz_subN (pc := 47) (hz_dec kX7_add 29 rfl) (by omega) ?_
      refine hz_n_le (pc := 48) (tgt := 53) (hz_dec kX7_add 30 rfl) (by decide) (by omega) (by omega) (fun h2 => ?_) (fun h2 => ?_)
      · skip
        refine hz_aloadn (pc := 53) 1 (hz_dec kX7_add 33 rfl) rfl ?_
        refine hz_iloadn (pc := 54) 2 (hz_dec kX7_add 34 rfl) rfl ?_
        refine hz_aloadn (pc := 55) 0 (hz_dec kX7_add 35 rfl) rfl ?_
        refine hz_get (pc := 56) (hz_dec kX7_add 36 rfl) fo_X7_9 hO ha (by omega) rfl ?_
        refine hz_aloadn (pc := 59) 0 (hz_dec kX7_add 37 rfl) rfl ?_
        refine hz_get (pc := 60) (hz_dec kX7_add 38 rfl) fo_X7_15 hO ha (by omega) rfl ?_
        refine hz_aloadn (pc := 63) 0 (hz_dec kX7_add 39 rfl) rfl ?_
        refine hz_get (pc := 64) (hz_dec kX7_add 40 rfl) fo_X7_19 hO ha (by omega) rfl ?_
        refine hz_iald (pc := 67) (j := L.length) (hz_dec kX7_add 41 rfl) hg (by omega) (by omega) rfl (by omega) (by omega) ?_
        refine hz_eqi (pc := 68) (hX.1 (L.length) (by omega)) ?_
        refine hz_iloadn (pc := 68) 3 (hz_dec kX7_add 42 rfl) rfl ?_
        refine hz_copyB (pc := 69) (hz_dec kX7_add 43 rfl) ac_X7_27 hB hb8 hbz hf (by omega) (by omega) hat (by omega) (by omega) (by omega) (by decide) (by decide) ?_
        refine hz_aloadn (pc := 72) 0 (hz_dec kX7_add 44 rfl) rfl ?_
        refine hz_get (pc := 73) (hz_dec kX7_add 45 rfl) fo_X7_15 (hz_mne hO (by omega)) ha (by omega) rfl ?_
        refine hz_aloadn (pc := 76) 0 (hz_dec kX7_add 46 rfl) rfl ?_
        refine hz_get (pc := 77) (hz_dec kX7_add 47 rfl) fo_X7_19 (hz_mne hO (by omega)) ha (by omega) rfl ?_
        refine hz_iconst (pc := 80) (v := nI 1) (hz_dec kX7_add 48 rfl) (by decide) ?_
        refine hz_addN (pc := 81) (hz_dec kX7_add 49 rfl) ?_
        refine hz_aloadn (pc := 82) 0 (hz_dec kX7_add 50 rfl) rfl ?_
        refine hz_get (pc := 83) (hz_dec kX7_add 51 rfl) fo_X7_15 (hz_mne hO (by omega)) ha (by omega) rfl ?_
        refine hz_aloadn (pc := 86) 0 (hz_dec kX7_add 52 rfl) rfl ?_
        refine hz_get (pc := 87) (hz_dec kX7_add 53 rfl) fo_X7_19 (hz_mne hO (by omega)) ha (by omega) rfl ?_
        refine hz_iald (pc := 90) (j := L.length) (hz_dec kX7_add 54 rfl) (hz_mne hg (by omega)) (by omega) (by omega) rfl (by omega) (by omega) ?_
        refine hz_eqi (pc := 91) (hX.1 (L.length) (by omega)) ?_
        refine hz_iloadn (pc := 91) 3 (hz_dec kX7_add 55 rfl) rfl ?_
        refine hz_addN (pc := 92) (hz_dec kX7_add 56 rfl) ?_
        refine hz_iast (pc := 93) (j := (L.length) + 1) (hz_dec kX7_add 57 rfl) (hz_mne hg (by omega)) (by omega) (by omega) rfl (by omega) (by omega) ?_
        refine hz_aloadn (pc := 94) 0 (hz_dec kX7_add 58 rfl) rfl ?_
        refine hz_dup (pc := 95) (hz_dec kX7_add 59 rfl) rfl ?_
        refine hz_get (pc := 96) (hz_dec kX7_add 60 rfl) fo_X7_19 (hz_mne (hz_mne hO (by omega)) (by omega)) ha (by omega) rfl ?_
        refine hz_iconst (pc := 99) (v := nI 1) (hz_dec kX7_add 61 rfl) (by decide) ?_
        refine hz_addN (pc := 100) (hz_dec kX7_add 62 rfl) ?_
        refine hz_puti (pc := 101) (hz_dec kX7_add 63 rfl) fo_X7_19 ft_X7_2 (hz_mne (hz_mne hO (by omega)) (by omega)) ha (by omega) (Nat.le_of_ble_eq_true rfl) ?_
        refine hz_mem (pc := 104) (M2 := (va_up (va_up (va_up M (a + 1) (.inl (1, nb, .inl (va_cpy fb f at_ (offL L L.length) t.length)))) (a + 2) (.inl (0, mo + 1, .inl (upd g ((L.length) + 1) ((nI ((offL L (L.length)) + (t.length)))))))) a (.inr (7, [.ref (a + 1), .ref (a + 2), .int (nI ((L.length) + 1))])))) rfl ?_
        refine hz_iconst (pc := 104) (v := nI 1) (hz_dec kX7_add 64 rfl) (by decide) ?_
        refine hz_zret (pc := 105) (hz_dec kX7_add 65 rfl) rfl rfl ⟨rfl, rfl, frS.upr (frS.upr (frS.up (by simp only [outS, and_true]; omega)) (by simp only [outS, and_true]; omega)) (by simp only [outS, and_true]; omega), ?_⟩
        refine ⟨(va_up_self _ _ _).trans (by rw [List.length_append]; rfl), by rw [List.length_append]; exact hro, ?_, _, _, hz_mne (hz_mne (va_up_self _ _ _) (by omega)) (by omega), hz_mne (va_up_self _ _ _) (by omega), ?_, ?_⟩
        · rw [List.length_append, show L.length + [t].length = L.length + 1 from rfl]
          simp only [offL]
          rw [offL_app (Nat.le_refl _), rowL_last]
          exact hrb
        · intro j hj
          rw [List.length_append, show L.length + [t].length = L.length + 1 from rfl] at hj
          simp only [upd]
          split
          · next e => subst e; simp only [offL]; rw [offL_app (Nat.le_refl _), rowL_last]
          · rw [offL_app (by omega)]; exact hX.1 j (by omega)
        · intro j hj q hq
          rw [List.length_append, show L.length + [t].length = L.length + 1 from rfl] at hj
          unfold va_cpy
          rcases (show j = L.length ∨ j < L.length by omega) with rfl | c
          · rw [rowL_last] at hq
            rw [offL_app (Nat.le_refl _), rowL_last, if_pos (by omega), Nat.add_sub_cancel_left]
            exact ht q hq
          · rw [rowL_app c] at hq
            have m := offL_mono L L.length (j + 1) (by omega)
            simp only [offL] at m
            rw [offL_app (by omega), rowL_app c, if_neg (by omega)]
            exact hX.2 j c q hq
      · skip
        exact absurd h2 (by omega)
  · skip
    exact absurd h0 (by omega)
set_option maxHeartbeats 4000000 in
set_option maxRecDepth 100000 in
theorem c_rwRem_l {κ : hz_C} {z : Nat} {M : hz_M} {a nb mo : Nat} {L : List by_L} (h : rwR M a nb mo L) (ha : 8 ≤ a) (hz : a + 3 ≤ z) (hnb : nb < 2 ^ 29) (hmo : mo < 2 ^ 29) {f g : Nat → Int32} (hO : M a = .inr (7, [.ref (a + 1), .ref (a + 2), .int (nI L.length)])) (hf : M (a + 1) = .inl (1, nb, .inl f)) (hg : M (a + 2) = .inl (0, mo + 1, .inl g)) {k0 : Nat} (hk0 : k0 < L.length) {P : hz_P} (K : ∀ g2 : Nat → Int32, (∀ j, j < L.length → g2 j = nI (offL (L.eraseIdx k0) j)) → hz_W κ xX7_remove 1 0 0 P 0 0 96 [(0, .ref a)] [] z (va_up (va_up M (a + 1) (.inl (1, nb, .inl (va_cpy f f (offL L (k0 + 1)) (offL L k0) (offL L L.length - offL L (k0 + 1)))))) (a + 2) (.inl (0, mo + 1, .inl g2)))) : ∀ k i g2, k = L.length - i → k0 < i → i ≤ L.length → (∀ j, j < i → g2 j = nI (offL (L.eraseIdx k0) j)) → (∀ j, i ≤ j → j ≤ L.length → g2 j = nI (offL L j)) → hz_W κ xX7_remove 1 0 0 P 0 0 66 [(3, .int (nI i)), (0, .ref a), (1, .int (nI k0)), (2, .int (nI ((rowL L k0).length)))] [] z (va_up (va_up M (a + 1) (.inl (1, nb, .inl (va_cpy f f (offL L (k0 + 1)) (offL L k0) (offL L L.length - offL L (k0 + 1)))))) (a + 2) (.inl (0, mo + 1, .inl g2))) := by
  intro k
  induction k using Nat.strongRecOn with
  | ind k ih =>
  intro i g2 hk hi hi2 hlo hhi
  obtain ⟨-, hle, hoff, -⟩ := id h
  refine hz_iloadn (pc := 66) 0 (hz_dec kX7_remove 42 rfl) rfl ?_
  refine hz_aloadn (pc := 67) 1 (hz_dec kX7_remove 43 rfl) rfl ?_
  refine hz_get (pc := 68) (hz_dec kX7_remove 44 rfl) fo_X7_19 (hz_mne (hz_mne hO (by omega)) (by omega)) ha (by omega) rfl ?_
  refine hz_n_ge (pc := 71) (tgt := 96) (hz_dec kX7_remove 45 rfl) (by decide) (by omega) (by omega) (fun h1 => ?_) (fun h1 => ?_)
  · skip
    have e : i = L.length := by omega
    subst e
    refine hz_pick (pc := 96) [1] rfl ?_
    exact K g2 hlo
  · skip
    have m := offL_mono L (i + 1) (k0 + 1) (by omega)
    simp only [offL] at m
    have m9 : (rowL L k0).length ≤ offL L (i + 1) := by simp only [offL]; omega
    refine hz_aloadn (pc := 74) 1 (hz_dec kX7_remove 46 rfl) rfl ?_
    refine hz_get (pc := 75) (hz_dec kX7_remove 47 rfl) fo_X7_15 (hz_mne (hz_mne hO (by omega)) (by omega)) ha (by omega) rfl ?_
    refine hz_iloadn (pc := 78) 0 (hz_dec kX7_remove 48 rfl) rfl ?_
    refine hz_aloadn (pc := 79) 1 (hz_dec kX7_remove 49 rfl) rfl ?_
    refine hz_get (pc := 80) (hz_dec kX7_remove 50 rfl) fo_X7_15 (hz_mne (hz_mne hO (by omega)) (by omega)) ha (by omega) rfl ?_
    refine hz_iloadn (pc := 83) 0 (hz_dec kX7_remove 51 rfl) rfl ?_
    refine hz_iconst (pc := 84) (v := nI 1) (hz_dec kX7_remove 52 rfl) (by decide) ?_
    refine hz_addN (pc := 85) (hz_dec kX7_remove 53 rfl) ?_
    refine hz_iald (pc := 86) (j := i + 1) (hz_dec kX7_remove 54 rfl) (va_up_self _ _ _) (by omega) (by omega) rfl (by omega) (by omega) ?_
    refine hz_eqi (pc := 87) (hhi (i + 1) (by omega) (by omega)) ?_
    refine hz_iloadn (pc := 87) 3 (hz_dec kX7_remove 55 rfl) rfl ?_
    refine hz_subN (pc := 88) (hz_dec kX7_remove 56 rfl) (by omega) ?_
    refine hz_iast (pc := 89) (j := i) (hz_dec kX7_remove 57 rfl) (va_up_self _ _ _) (by omega) (by omega) rfl (by omega) (by omega) ?_
    refine hz_mem (pc := 90) (M2 := (va_up (va_up M (a + 1) (.inl (1, nb, .inl (va_cpy f f (offL L (k0 + 1)) (offL L k0) (offL L L.length - offL L (k0 + 1)))))) (a + 2) (.inl (0, mo + 1, .inl (upd g2 i ((nI ((offL L (i + 1)) - ((rowL L k0).length))))))))) (bx_uu _ _ _ _) ?_
    refine hz_incN (pc := 90) (i := 3) (lo2 := [(3, .int (nI (i + 1))), (0, .ref a), (1, .int (nI k0)), (2, .int (nI ((rowL L k0).length)))]) 0 (hz_dec kX7_remove 58 rfl) rfl (by decide) rfl ?_
    refine hz_goto (pc := 93) (tgt := 66) (hz_dec kX7_remove 59 rfl) (by decide) ?_
    refine hz_pick (pc := 66) [0, 1, 2, 3] rfl ?_
    refine ih (L.length - (i + 1)) (by omega) (i + 1) _ rfl (by omega) (by omega) (fun j hj => ?_) (fun j hj hj2 => ?_)
    · simp only [upd]
      split
      · next e => subst e; rw [offL_er, if_neg (by omega)]
      · exact hlo j (by omega)
    · simp only [upd]; rw [if_neg (by omega)]; exact hhi j (by omega) hj2
set_option maxHeartbeats 4000000 in
set_option maxRecDepth 100000 in
theorem c_rwRem {κ : hz_C} {z : Nat} {M : hz_M} {a nb mo : Nat} {L : List by_L} (h : rwR M a nb mo L) (ha : 8 ≤ a) (hz : a + 3 ≤ z) (hnb : nb < 2 ^ 29) (hmo : mo < 2 ^ 29) {k0 : Nat} (hk0 : k0 < L.length) : hz_Mt κ xX7_remove 1 0 0 [.ref a, .int (nI k0)] z M (fun r z2 M2 => none = r ∧ z = z2 ∧ frS [(a, a + 3)] M M2 ∧ rwR M2 a nb mo (L.eraseIdx k0)) := by
  refine hz_ent (lo := [(0, .ref a), (1, .int (nI k0))]) (by decide) (Nat.le_of_ble_eq_true rfl) rfl ?_
  obtain ⟨hO, hle, hoff, f, g, hf, hg, hX⟩ := id h
  have em := offL_mono L L.length (k0 + 1) (by omega)
  have es : offL L (k0 + 1) = offL L k0 + (rowL L k0).length := rfl
  refine hz_iloadn (pc := 0) 1 (hz_dec kX7_remove 0 rfl) rfl ?_
  refine hz_z_lt (pc := 1) (tgt := 12) (hz_dec kX7_remove 1 rfl) (by decide) (by omega) ?_
  refine hz_iloadn (pc := 4) 1 (hz_dec kX7_remove 2 rfl) rfl ?_
  refine hz_aloadn (pc := 5) 0 (hz_dec kX7_remove 3 rfl) rfl ?_
  refine hz_get (pc := 6) (hz_dec kX7_remove 4 rfl) fo_X7_19 hO ha (by omega) rfl ?_
  refine hz_n_lt (pc := 9) (tgt := 13) (hz_dec kX7_remove 5 rfl) (by decide) (by omega) (by omega) (fun h1 => ?_) (fun h1 => ?_)
  · skip
    refine hz_aloadn (pc := 13) 0 (hz_dec kX7_remove 7 rfl) rfl ?_
    refine hz_iloadn (pc := 14) 1 (hz_dec kX7_remove 8 rfl) rfl ?_
    refine hz_xV (pc := 15) (a := a) (As := [.int (nI k0)]) (st := []) (hz_dec kX7_remove 9 rfl) co_X7_23 im_X7_lengthOf se_X7_lengthOf rfl hO ha (by omega) (c_lenOf h ha hz hnb hmo hk0) rfl (by decide) ⟨Nat.le_refl _, Nat.le_refl _⟩ (Nat.le_of_ble_eq_true rfl) rfl ?_
    refine hz_istoren (pc := 18) (i := 2) (lo2 := [(2, .int (nI ((rowL L k0).length))), (0, .ref a), (1, .int (nI k0))]) (hz_dec kX7_remove 10 rfl) rfl (by decide) rfl ?_
    refine hz_aloadn (pc := 19) 1 (hz_dec kX7_remove 11 rfl) rfl ?_
    refine hz_get (pc := 20) (hz_dec kX7_remove 12 rfl) fo_X7_9 hO ha (by omega) rfl ?_
    refine hz_aloadn (pc := 23) 1 (hz_dec kX7_remove 13 rfl) rfl ?_
    refine hz_get (pc := 24) (hz_dec kX7_remove 14 rfl) fo_X7_15 hO ha (by omega) rfl ?_
    refine hz_iloadn (pc := 27) 2 (hz_dec kX7_remove 15 rfl) rfl ?_
    refine hz_iconst (pc := 28) (v := nI 1) (hz_dec kX7_remove 16 rfl) (by decide) ?_
    refine hz_addN (pc := 29) (hz_dec kX7_remove 17 rfl) ?_
    refine hz_iald (pc := 30) (j := k0 + 1) (hz_dec kX7_remove 18 rfl) hg (by omega) (by omega) rfl (by omega) (by omega) ?_
    refine hz_eqi (pc := 31) (hX.1 (k0 + 1) (by omega)) ?_
    refine hz_aloadn (pc := 31) 1 (hz_dec kX7_remove 19 rfl) rfl ?_
    refine hz_get (pc := 32) (hz_dec kX7_remove 20 rfl) fo_X7_9 hO ha (by omega) rfl ?_
    refine hz_aloadn (pc := 35) 1 (hz_dec kX7_remove 21 rfl) rfl ?_
    refine hz_get (pc := 36) (hz_dec kX7_remove 22 rfl) fo_X7_15 hO ha (by omega) rfl ?_
    refine hz_iloadn (pc := 39) 2 (hz_dec kX7_remove 23 rfl) rfl ?_
    refine hz_iald (pc := 40) (j := k0) (hz_dec kX7_remove 24 rfl) hg (by omega) (by omega) rfl (by omega) (by omega) ?_
    refine hz_eqi (pc := 41) (hX.1 (k0) (by omega)) ?_
    refine hz_aloadn (pc := 41) 1 (hz_dec kX7_remove 25 rfl) rfl ?_
    refine hz_get (pc := 42) (hz_dec kX7_remove 26 rfl) fo_X7_15 hO ha (by omega) rfl ?_
    refine hz_aloadn (pc := 45) 1 (hz_dec kX7_remove 27 rfl) rfl ?_
    refine hz_get (pc := 46) (hz_dec kX7_remove 28 rfl) fo_X7_19 hO ha (by omega) rfl ?_
    refine hz_iald (pc := 49) (j := L.length) (hz_dec kX7_remove 29 rfl) hg (by omega) (by omega) rfl (by omega) (by omega) ?_
    refine hz_eqi (pc := 50) (hX.1 (L.length) (by omega)) ?_
    refine hz_aloadn (pc := 50) 1 (hz_dec kX7_remove 30 rfl) rfl ?_
    refine hz_get (pc := 51) (hz_dec kX7_remove 31 rfl) fo_X7_15 hO ha (by omega) rfl ?_
    refine hz_iloadn (pc := 54) 2 (hz_dec kX7_remove 32 rfl) rfl ?_
    refine hz_iconst (pc := 55) (v := nI 1) (hz_dec kX7_remove 33 rfl) (by decide) ?_
    refine hz_addN (pc := 56) (hz_dec kX7_remove 34 rfl) ?_
    refine hz_iald (pc := 57) (j := k0 + 1) (hz_dec kX7_remove 35 rfl) hg (by omega) (by omega) rfl (by omega) (by omega) ?_
    refine hz_eqi (pc := 58) (hX.1 (k0 + 1) (by omega)) ?_
    refine hz_subN (pc := 58) (hz_dec kX7_remove 36 rfl) (by omega) ?_
    refine hz_copyB (pc := 59) (hz_dec kX7_remove 37 rfl) ac_X7_27 hf (by omega) (by omega) hf (by omega) (by omega) (by omega) (by omega) (by omega) (by omega) (by decide) (by decide) ?_
    refine hz_iloadn (pc := 62) 2 (hz_dec kX7_remove 38 rfl) rfl ?_
    refine hz_iconst (pc := 63) (v := nI 1) (hz_dec kX7_remove 39 rfl) (by decide) ?_
    refine hz_addN (pc := 64) (hz_dec kX7_remove 40 rfl) ?_
    refine hz_istoren (pc := 65) (i := 3) (lo2 := [(3, .int (nI (k0 + 1))), (2, .int (nI ((rowL L k0).length))), (0, .ref a), (1, .int (nI k0))]) (hz_dec kX7_remove 41 rfl) rfl (by decide) rfl ?_
    refine hz_pick (pc := 66) [0, 2, 3, 1] rfl ?_
    refine hz_mem (pc := 66) (hz_upid (hz_mne hg (by omega))).symm ?_
    refine c_rwRem_l h ha hz hnb hmo hO hf hg hk0 (fun g2 hg2 => ?_) (L.length - (k0 + 1)) (k0 + 1) g rfl (by omega) (by omega) (fun j hj => ?_) (fun j hj hj2 => hX.1 j hj2)
    · skip
      refine hz_aloadn (pc := 96) 0 (hz_dec kX7_remove 60 rfl) rfl ?_
      refine hz_dup (pc := 97) (hz_dec kX7_remove 61 rfl) rfl ?_
      refine hz_get (pc := 98) (hz_dec kX7_remove 62 rfl) fo_X7_19 (hz_mne (hz_mne hO (by omega)) (by omega)) ha (by omega) rfl ?_
      refine hz_iconst (pc := 101) (v := nI 1) (hz_dec kX7_remove 63 rfl) (by decide) ?_
      refine hz_subN (pc := 102) (hz_dec kX7_remove 64 rfl) (by omega) ?_
      refine hz_puti (pc := 103) (hz_dec kX7_remove 65 rfl) fo_X7_19 ft_X7_2 (hz_mne (hz_mne hO (by omega)) (by omega)) ha (by omega) (Nat.le_of_ble_eq_true rfl) ?_
      refine hz_mem (pc := 106) (M2 := (va_up (va_up (va_up M (a + 1) (.inl (1, nb, .inl (va_cpy f f (offL L (k0 + 1)) (offL L k0) (offL L L.length - offL L (k0 + 1)))))) (a + 2) (.inl (0, mo + 1, .inl (g2)))) a (.inr (7, [.ref (a + 1), .ref (a + 2), .int (nI ((L.length) - 1))])))) rfl ?_
      refine hz_vret (pc := 106) (hz_dec kX7_remove 66 rfl) rfl ⟨rfl, rfl, frS.upr (frS.upr (frS.up (by simp only [outS, and_true]; omega)) (by simp only [outS, and_true]; omega)) (by simp only [outS, and_true]; omega), ?_⟩
      refine ⟨(va_up_self _ _ _).trans (by rw [er_len hk0]), by rw [er_len hk0]; omega, ?_, _, _, hz_mne (hz_mne (va_up_self _ _ _) (by omega)) (by omega), hz_mne (va_up_self _ _ _) (by omega), ?_, ?_⟩
      · have q := offL_ero hk0
        omega
      · intro j hj
        rw [er_len hk0] at hj
        exact hg2 j (by omega)
      · intro j hj q hq
        rw [er_len hk0] at hj
        rw [rowL_er] at hq ⊢
        rw [offL_er]
        unfold va_cpy
        by_cases c : j < k0
        · rw [if_pos c] at hq ⊢
          have m := offL_mono L k0 (j + 1) (by omega)
          simp only [offL] at m
          rw [if_pos (show j ≤ k0 by omega), if_neg (fun c9 => by have c8 := c9.1; omega)]
          exact hX.2 j (by omega) q hq
        · rw [if_neg c] at hq ⊢
          have m := offL_mono L L.length (j + 1 + 1) (by omega)
          have m2 := offL_mono L (j + 1) (k0 + 1) (by omega)
          have m3 : offL L (j + 1 + 1) = offL L (j + 1) + (rowL L (j + 1)).length := rfl
          have e : (if j ≤ k0 then offL L j else offL L (j + 1) - (rowL L k0).length) = offL L (j + 1) - (rowL L k0).length := by
            split
            · rw [show j = k0 by omega, es, Nat.add_sub_cancel]
            · rfl
          rw [e, if_pos (by omega), show offL L (k0 + 1) + (offL L (j + 1) - (rowL L k0).length + q - offL L k0) = offL L (j + 1) + q by omega]
          exact hX.2 (j + 1) (by omega) q hq
    · rw [hX.1 j (by omega), offL_er, if_pos (by omega)]
  · skip
    exact absurd hk0 (by omega)
set_option maxHeartbeats 4000000 in
set_option maxRecDepth 100000 in
theorem c_rwClr {κ : hz_C} {z : Nat} {M : hz_M} {a nb mo : Nat} {L : List by_L} (h : rwR M a nb mo L) (ha : 8 ≤ a) (hz : a + 3 ≤ z) (hnb : nb < 2 ^ 29) (hmo : mo < 2 ^ 29) : hz_Mt κ xX7_clear 0 0 0 [.ref a] z M (fun r z2 M2 => none = r ∧ z = z2 ∧ frS [(a, a + 1)] M M2 ∧ rwR M2 a nb mo []) := by
  refine hz_ent (lo := [(0, .ref a)]) (by decide) (Nat.le_of_ble_eq_true rfl) rfl ?_
  obtain ⟨hO, hle, hoff, f, g, hf, hg, hX⟩ := id h
  refine hz_aloadn (pc := 0) 0 (hz_dec kX7_clear 0 rfl) rfl ?_
  refine hz_iconst (pc := 1) (v := nI 0) (hz_dec kX7_clear 1 rfl) (by decide) ?_
  refine hz_puti (pc := 2) (hz_dec kX7_clear 2 rfl) fo_X7_19 ft_X7_2 hO ha (by omega) (Nat.le_of_ble_eq_true rfl) ?_
  refine hz_mem (pc := 5) (M2 := (va_up M a (.inr (7, [.ref (a + 1), .ref (a + 2), .int (nI 0)])))) rfl ?_
  refine hz_vret (pc := 5) (hz_dec kX7_clear 3 rfl) rfl ⟨rfl, rfl, frS.up (by simp only [outS, and_true]; omega), va_up_self _ _ _, Nat.zero_le _, Nat.zero_le _, f, g, hz_mne hf (by omega), hz_mne hg (by omega), fun j hj => ?_, fun j hj => absurd hj (Nat.not_lt_zero j)⟩
  rw [hX.1 j (Nat.le_trans hj (Nat.zero_le _)), show j = 0 from Nat.le_zero.mp hj]
  rfl
