/-! messages; Mail -/
/-- sender, receiver, kind, tick, bytes -/
abbrev ms_M : Type := Int32 × Int32 × Int32 × Int32 × by_L
def msL (q : List ms_M) (k : Nat) : ms_M := q.getD k (0, 0, 0, 0, [])
def msB (q : List ms_M) : List by_L := q.map (fun m => m.2.2.2.2)
def msO (q : List ms_M) (k : Nat) : Nat := offL (msB q) k
theorem msB_len (q : List ms_M) : (msB q).length = q.length := List.length_map ..
theorem rowL_ms (q : List ms_M) (k : Nat) : rowL (msB q) k = (msL q k).2.2.2.2 := by
  unfold rowL msB msL
  rw [List.getD_eq_getElem?_getD, List.getElem?_map, List.getD_eq_getElem?_getD]
  cases q[k]? with
  | none => rfl
  | some b => rfl
theorem msL_app {q : List ms_M} {t : ms_M} {j : Nat} (h : j < q.length) : msL (q ++ [t]) j = msL q j := by
  unfold msL
  rw [List.getD_eq_getElem?_getD, List.getD_eq_getElem?_getD, List.getElem?_append_left h]
theorem msL_last {q : List ms_M} {t : ms_M} : msL (q ++ [t]) q.length = t := by
  unfold msL
  rw [List.getD_eq_getElem?_getD, List.getElem?_append_right (Nat.le_refl _), Nat.sub_self]
  rfl
theorem msL_er {q : List ms_M} {k j : Nat} : msL (q.eraseIdx k) j = if j < k then msL q j else msL q (j + 1) := by
  unfold msL
  rw [List.getD_eq_getElem?_getD, List.getElem?_eraseIdx]
  split
  · rw [List.getD_eq_getElem?_getD]
  · rw [List.getD_eq_getElem?_getD]
theorem ms_erl {q : List ms_M} {k : Nat} (h : k < q.length) : (q.eraseIdx k).length = q.length - 1 := by rw [List.length_eraseIdx, if_pos h]
theorem map_er {α β : Type} (f : α → β) : ∀ (l : List α) k, (l.eraseIdx k).map f = (l.map f).eraseIdx k := by
  intro l
  induction l with
  | nil => intro k; rfl
  | cons a l ih =>
    intro k
    cases k with
    | zero => rfl
    | succ k => simp only [List.eraseIdx_cons_succ, List.map_cons, ih]
theorem msB_er (q : List ms_M) (k : Nat) : msB (q.eraseIdx k) = (msB q).eraseIdx k := map_er _ _ _
theorem msB_app (q : List ms_M) (t : ms_M) : msB (q ++ [t]) = msB q ++ [t.2.2.2.2] := List.map_append ..
def msX (f1 f2 f3 f4 : Nat → Int32) (q : List ms_M) : Prop := ∀ k, k < q.length → f1 k = (msL q k).1 ∧ f2 k = (msL q k).2.1 ∧ f3 k = (msL q k).2.2.1 ∧ f4 k = (msL q k).2.2.2.1
theorem msX_app {f1 f2 f3 f4 : Nat → Int32} {q : List ms_M} (h : msX f1 f2 f3 f4 q) {a b c d : Int32} {t : by_L} : msX (upd f1 q.length a) (upd f2 q.length b) (upd f3 q.length c) (upd f4 q.length d) (q ++ [(a, b, c, d, t)]) := by
  intro k hk
  rw [List.length_append] at hk
  have hk2 : k < q.length + 1 := hk
  rcases (show k = q.length ∨ k < q.length by omega) with rfl | c9
  · rw [msL_last]
    simp [upd]
  · rw [msL_app c9]
    simp only [upd, if_neg (show ¬ k = q.length by omega)]
    exact h k c9
theorem msX_er {f1 f2 f3 f4 g1 g2 g3 g4 : Nat → Int32} {q : List ms_M} {k0 : Nat} (h : msX f1 f2 f3 f4 q) (hk : k0 < q.length) (hl : ∀ j, j < k0 → g1 j = f1 j ∧ g2 j = f2 j ∧ g3 j = f3 j ∧ g4 j = f4 j) (hr : ∀ j, k0 ≤ j → j < q.length - 1 → g1 j = f1 (j + 1) ∧ g2 j = f2 (j + 1) ∧ g3 j = f3 (j + 1) ∧ g4 j = f4 (j + 1)) : msX g1 g2 g3 g4 (q.eraseIdx k0) := by
  intro j hj
  rw [ms_erl hk] at hj
  rw [msL_er]
  by_cases c : j < k0
  · rw [if_pos c]
    obtain ⟨e1, e2, e3, e4⟩ := hl j c
    rw [e1, e2, e3, e4]
    exact h j (by omega)
  · rw [if_neg c]
    obtain ⟨e1, e2, e3, e4⟩ := hr j (by omega) hj
    rw [e1, e2, e3, e4]
    exact h (j + 1) (by omega)
def mlO (nn : Nat) (now gone : Int32) (ll : Nat) (fr kn : Int32) : va_E := .inr (5, [.ref 46, .ref 49, .ref 50, .ref 51, .ref 52, .int (nI nn), .ref 54, .int now, .int gone, .ref 53, .int (nI ll), .int fr, .int kn])
def mlQ (M : hz_M) (q : List ms_M) : Prop := rwR M 46 40000 200 (msB q) ∧ ∃ f1 f2 f3 f4 : Nat → Int32, M 49 = .inl (0, 200, .inl f1) ∧ M 50 = .inl (0, 200, .inl f2) ∧ M 51 = .inl (0, 200, .inl f3) ∧ M 52 = .inl (0, 200, .inl f4) ∧ msX f1 f2 f3 f4 q
theorem mlQ.fr {M M2 : hz_M} {q : List ms_M} (h : mlQ M q) (e : ∀ x, 46 ≤ x → x < 53 → M2 x = M x) : mlQ M2 q := by
  obtain ⟨h1, f1, f2, f3, f4, g1, g2, g3, g4, hx⟩ := h
  exact ⟨h1.fr (fun x q1 q2 => e x (by omega) (by omega)), f1, f2, f3, f4, (e 49 (by decide) (by decide)).trans g1, (e 50 (by decide) (by decide)).trans g2, (e 51 (by decide) (by decide)).trans g3, (e 52 (by decide) (by decide)).trans g4, hx⟩
def mlD (M : hz_M) (dl : Nat → Nat) : Prop := ∃ fd : Nat → Int32, M 54 = .inl (0, 36, .inl fd) ∧ ∀ k, k < 36 → fd k = nI (dl k) ∧ dl k ≤ 9
set_option maxHeartbeats 4000000 in
set_option maxRecDepth 100000 in
theorem c_dly {κ : hz_C} {z : Nat} {M : hz_M} (hz : 63 ≤ z) {nn : Nat} {now gone : Int32} {ll : Nat} {fr kn : Int32} (hO : M 45 = mlO nn now gone ll fr kn) (hnn : nn ≤ 6) {dl : Nat → Nat} (hD : mlD M dl) {a b : Nat} (ha : a < nn) (hb : b < nn) : hz_Mt κ xX5_delayOf 0 0 0 [.ref 45, .int (nI a), .int (nI b)] z M (hz_ex (some (.int (nI (dl (6 * a + b))))) z M) := by
  refine hz_ent (lo := [(0, .ref 45), (1, .int (nI a)), (2, .int (nI b))]) (by decide) (Nat.le_of_ble_eq_true rfl) rfl ?_
  obtain ⟨fd, hfd, hdX⟩ := id hD
  refine hz_iloadn (pc := 0) 1 (hz_dec kX5_delayOf 0 rfl) rfl ?_
  refine hz_z_lt (pc := 1) (tgt := 24) (hz_dec kX5_delayOf 1 rfl) (by decide) (by omega) ?_
  refine hz_iloadn (pc := 4) 1 (hz_dec kX5_delayOf 2 rfl) rfl ?_
  refine hz_aloadn (pc := 5) 0 (hz_dec kX5_delayOf 3 rfl) rfl ?_
  refine hz_get (pc := 6) (hz_dec kX5_delayOf 4 rfl) fo_X5_38 hO (by omega) (by omega) rfl ?_
  refine hz_n_ge (pc := 9) (tgt := 24) (hz_dec kX5_delayOf 5 rfl) (by decide) (by omega) (by omega) (fun h1 => ?_) (fun h1 => ?_)
  · skip
    exact absurd h1 (by omega)
  · skip
    refine hz_iloadn (pc := 12) 2 (hz_dec kX5_delayOf 6 rfl) rfl ?_
    refine hz_z_lt (pc := 13) (tgt := 24) (hz_dec kX5_delayOf 7 rfl) (by decide) (by omega) ?_
    refine hz_iloadn (pc := 16) 2 (hz_dec kX5_delayOf 8 rfl) rfl ?_
    refine hz_aloadn (pc := 17) 0 (hz_dec kX5_delayOf 9 rfl) rfl ?_
    refine hz_get (pc := 18) (hz_dec kX5_delayOf 10 rfl) fo_X5_38 hO (by omega) (by omega) rfl ?_
    refine hz_n_lt (pc := 21) (tgt := 28) (hz_dec kX5_delayOf 11 rfl) (by decide) (by omega) (by omega) (fun h3 => ?_) (fun h3 => ?_)
    · skip
      refine hz_aloadn (pc := 28) 0 (hz_dec kX5_delayOf 14 rfl) rfl ?_
      refine hz_get (pc := 29) (hz_dec kX5_delayOf 15 rfl) fo_X5_42 hO (by omega) (by omega) rfl ?_
      refine hz_bipush (pc := 32) (v := nI 6) (hz_dec kX5_delayOf 16 rfl) (by decide) ?_
      refine hz_iloadn (pc := 34) 1 (hz_dec kX5_delayOf 17 rfl) rfl ?_
      refine hz_mulN (pc := 35) (hz_dec kX5_delayOf 18 rfl) ?_
      refine hz_iloadn (pc := 36) 2 (hz_dec kX5_delayOf 19 rfl) rfl ?_
      refine hz_addN (pc := 37) (hz_dec kX5_delayOf 20 rfl) ?_
      refine hz_iald (pc := 38) (j := (6 * a) + b) (hz_dec kX5_delayOf 21 rfl) hfd (by omega) (by omega) rfl (by omega) (by decide) ?_
      refine hz_eqi (pc := 39) (hdX ((6 * a) + b) (by omega)).1 ?_
      exact hz_iret (pc := 39) (hz_dec kX5_delayOf 22 rfl) rfl ⟨rfl, rfl, rfl⟩
    · skip
      exact absurd hb (by omega)
set_option maxHeartbeats 4000000 in
set_option maxRecDepth 100000 in
theorem c_dly0 {κ : hz_C} {z : Nat} {M : hz_M} (hz : 63 ≤ z) {nn : Nat} {now gone : Int32} {ll : Nat} {fr kn : Int32} (hO : M 45 = mlO nn now gone ll fr kn) (hnn : nn ≤ 6) {dl : Nat → Nat} (hD : mlD M dl) {a : Nat} {b : Int32} (ha : a < nn) (hb : b < 0) : hz_Mt κ xX5_delayOf 0 0 0 [.ref 45, .int (nI a), .int b] z M (hz_ex (some (.int (nI 0))) z M) := by
  refine hz_ent (lo := [(0, .ref 45), (1, .int (nI a)), (2, .int b)]) (by decide) (Nat.le_of_ble_eq_true rfl) rfl ?_
  refine hz_iloadn (pc := 0) 1 (hz_dec kX5_delayOf 0 rfl) rfl ?_
  refine hz_z_lt (pc := 1) (tgt := 24) (hz_dec kX5_delayOf 1 rfl) (by decide) (by omega) ?_
  refine hz_iloadn (pc := 4) 1 (hz_dec kX5_delayOf 2 rfl) rfl ?_
  refine hz_aloadn (pc := 5) 0 (hz_dec kX5_delayOf 3 rfl) rfl ?_
  refine hz_get (pc := 6) (hz_dec kX5_delayOf 4 rfl) fo_X5_38 hO (by omega) (by omega) rfl ?_
  refine hz_n_ge (pc := 9) (tgt := 24) (hz_dec kX5_delayOf 5 rfl) (by decide) (by omega) (by omega) (fun h1 => ?_) (fun h1 => ?_)
  · skip
    exact absurd h1 (by omega)
  · skip
    refine hz_iloadn (pc := 12) 2 (hz_dec kX5_delayOf 6 rfl) rfl ?_
    refine hz_if_lt (pc := 13) (tgt := 24) (hz_dec kX5_delayOf 7 rfl) (by decide) (fun h2 => ?_) (fun h2 => ?_)
    · skip
      refine hz_iconst (pc := 24) (v := nI 0) (hz_dec kX5_delayOf 12 rfl) (by decide) ?_
      refine hz_goto (pc := 25) (tgt := 39) (hz_dec kX5_delayOf 13 rfl) (by decide) ?_
      exact hz_iret (pc := 39) (hz_dec kX5_delayOf 22 rfl) rfl ⟨rfl, rfl, rfl⟩
    · skip
      exact absurd hb h2
def dlS (dl : Nat → Nat) (a b d : Nat) : Nat → Nat := fun k => if k = 6 * b + a then d else if k = 6 * a + b then d else dl k
set_option maxHeartbeats 4000000 in
set_option maxRecDepth 100000 in
theorem c_sdly {κ : hz_C} {z : Nat} {M : hz_M} (hz : 63 ≤ z) {nn : Nat} {now gone : Int32} {ll : Nat} {fr kn : Int32} (hO : M 45 = mlO nn now gone ll fr kn) (hnn : nn ≤ 6) {dl : Nat → Nat} (hD : mlD M dl) {a b d : Nat} (ha : a < nn) (hb : b < nn) (hd : d ≤ 9) : hz_Mt κ xX5_setDelay 0 0 0 [.ref 45, .int (nI a), .int (nI b), .int (nI d)] z M (fun r z2 M2 => none = r ∧ z = z2 ∧ frS [(54, 55)] M M2 ∧ mlD M2 (dlS dl a b d)) := by
  refine hz_ent (lo := [(0, .ref 45), (1, .int (nI a)), (2, .int (nI b)), (3, .int (nI d))]) (by decide) (Nat.le_of_ble_eq_true rfl) rfl ?_
  obtain ⟨fd, hfd, hdX⟩ := id hD
  refine hz_iloadn (pc := 0) 1 (hz_dec kX5_setDelay 0 rfl) rfl ?_
  refine hz_z_lt (pc := 1) (tgt := 24) (hz_dec kX5_setDelay 1 rfl) (by decide) (by omega) ?_
  refine hz_iloadn (pc := 4) 1 (hz_dec kX5_setDelay 2 rfl) rfl ?_
  refine hz_aloadn (pc := 5) 0 (hz_dec kX5_setDelay 3 rfl) rfl ?_
  refine hz_get (pc := 6) (hz_dec kX5_setDelay 4 rfl) fo_X5_38 hO (by omega) (by omega) rfl ?_
  refine hz_n_ge (pc := 9) (tgt := 24) (hz_dec kX5_setDelay 5 rfl) (by decide) (by omega) (by omega) (fun h1 => ?_) (fun h1 => ?_)
  · skip
    exact absurd h1 (by omega)
  · skip
    refine hz_iloadn (pc := 12) 2 (hz_dec kX5_setDelay 6 rfl) rfl ?_
    refine hz_z_lt (pc := 13) (tgt := 24) (hz_dec kX5_setDelay 7 rfl) (by decide) (by omega) ?_
    refine hz_iloadn (pc := 16) 2 (hz_dec kX5_setDelay 8 rfl) rfl ?_
    refine hz_aloadn (pc := 17) 0 (hz_dec kX5_setDelay 9 rfl) rfl ?_
    refine hz_get (pc := 18) (hz_dec kX5_setDelay 10 rfl) fo_X5_38 hO (by omega) (by omega) rfl ?_
    refine hz_n_lt (pc := 21) (tgt := 25) (hz_dec kX5_setDelay 11 rfl) (by decide) (by omega) (by omega) (fun h3 => ?_) (fun h3 => ?_)
    · skip
      refine hz_aloadn (pc := 25) 0 (hz_dec kX5_setDelay 13 rfl) rfl ?_
      refine hz_get (pc := 26) (hz_dec kX5_setDelay 14 rfl) fo_X5_42 hO (by omega) (by omega) rfl ?_
      refine hz_bipush (pc := 29) (v := nI 6) (hz_dec kX5_setDelay 15 rfl) (by decide) ?_
      refine hz_iloadn (pc := 31) 1 (hz_dec kX5_setDelay 16 rfl) rfl ?_
      refine hz_mulN (pc := 32) (hz_dec kX5_setDelay 17 rfl) ?_
      refine hz_iloadn (pc := 33) 2 (hz_dec kX5_setDelay 18 rfl) rfl ?_
      refine hz_addN (pc := 34) (hz_dec kX5_setDelay 19 rfl) ?_
      refine hz_iloadn (pc := 35) 3 (hz_dec kX5_setDelay 20 rfl) rfl ?_
      refine hz_iast (pc := 36) (j := (6 * a) + b) (hz_dec kX5_setDelay 21 rfl) hfd (by omega) (by omega) rfl (by omega) (by decide) ?_
      refine hz_aloadn (pc := 37) 0 (hz_dec kX5_setDelay 22 rfl) rfl ?_
      refine hz_get (pc := 38) (hz_dec kX5_setDelay 23 rfl) fo_X5_42 (hz_mne hO (by omega)) (by omega) (by omega) rfl ?_
      refine hz_bipush (pc := 41) (v := nI 6) (hz_dec kX5_setDelay 24 rfl) (by decide) ?_
      refine hz_iloadn (pc := 43) 2 (hz_dec kX5_setDelay 25 rfl) rfl ?_
      refine hz_mulN (pc := 44) (hz_dec kX5_setDelay 26 rfl) ?_
      refine hz_iloadn (pc := 45) 1 (hz_dec kX5_setDelay 27 rfl) rfl ?_
      refine hz_addN (pc := 46) (hz_dec kX5_setDelay 28 rfl) ?_
      refine hz_iloadn (pc := 47) 3 (hz_dec kX5_setDelay 29 rfl) rfl ?_
      refine hz_iast (pc := 48) (j := (6 * b) + a) (hz_dec kX5_setDelay 30 rfl) (va_up_self _ _ _) (by omega) (by omega) rfl (by omega) (by decide) ?_
      refine hz_mem (pc := 49) (M2 := (va_up M 54 (.inl (0, 36, .inl (upd (upd fd ((6 * a) + b) ((nI (d)))) ((6 * b) + a) ((nI (d)))))))) (bx_uu _ _ _ _) ?_
      refine hz_vret (pc := 49) (hz_dec kX5_setDelay 31 rfl) rfl ⟨rfl, rfl, frS.up (by simp only [outS, and_true]; omega), _, va_up_self _ _ _, fun k hk => ?_⟩
      unfold dlS
      simp only [upd]
      split
      · exact ⟨rfl, hd⟩
      · split
        · exact ⟨rfl, hd⟩
        · exact hdX k hk
    · skip
      exact absurd hb (by omega)
def nwF (q : List ms_M) (now : Int32) : Nat := fsI (fun k => decide ((msL q k).2.2.2.1 = now)) q.length
set_option maxHeartbeats 4000000 in
set_option maxRecDepth 100000 in
theorem c_fnow_l {κ : hz_C} {z : Nat} {M : hz_M} (hz : 63 ≤ z) {nn : Nat} {now gone : Int32} {ll : Nat} {fr kn : Int32} (hO : M 45 = mlO nn now gone ll fr kn) (hnn : nn ≤ 6) {q : List ms_M} (hQ : mlQ M q) : ∀ k i, k = q.length - i → i ≤ q.length → (∀ j, j < i → decide ((msL q j).2.2.2.1 = now) = false) → hz_W κ xX5_firstNow 0 0 0 (hz_ex (some (.int (ixI (nwF q now) q.length))) z M) 0 0 2 [(1, .int (nI i)), (0, .ref 45)] [] z M := by
  intro k
  induction k using Nat.strongRecOn with
  | ind k ih =>
  intro i hk hi hno
  obtain ⟨hrw, f1, f2, f3, f4, g1, g2, g3, g4, hX⟩ := id hQ
  obtain ⟨hO1, hle1, hoff1, fx, gx, hfx, hgx, hrX⟩ := id hrw
  rw [msB_len] at hO1 hle1
  refine hz_iloadn (pc := 2) 0 (hz_dec kX5_firstNow 2 rfl) rfl ?_
  refine hz_aloadn (pc := 3) 1 (hz_dec kX5_firstNow 3 rfl) rfl ?_
  refine hz_get (pc := 4) (hz_dec kX5_firstNow 4 rfl) fo_X5_15 hO (by omega) (by omega) rfl ?_
  refine hz_get (pc := 7) (hz_dec kX5_firstNow 5 rfl) fo_X5_49 hO1 (by omega) (by omega) rfl ?_
  refine hz_n_ge (pc := 10) (tgt := 34) (hz_dec kX5_firstNow 6 rfl) (by decide) (by omega) (by omega) (fun h1 => ?_) (fun h1 => ?_)
  · skip
    have e : i = q.length := by omega
    refine hz_iconst (pc := 34) (v := (-1)) (hz_dec kX5_firstNow 18 rfl) (by decide) ?_
    refine hz_iret (pc := 35) (hz_dec kX5_firstNow 19 rfl) rfl ⟨?_, rfl, rfl⟩
    unfold ixI nwF
    rw [fsI_no (p := fun k => decide ((msL q k).2.2.2.1 = now)) _ (fun j hj => hno j (by omega)), if_neg (by omega)]
  · skip
    refine hz_aloadn (pc := 13) 1 (hz_dec kX5_firstNow 7 rfl) rfl ?_
    refine hz_get (pc := 14) (hz_dec kX5_firstNow 8 rfl) fo_X5_31 hO (by omega) (by omega) rfl ?_
    refine hz_iloadn (pc := 17) 0 (hz_dec kX5_firstNow 9 rfl) rfl ?_
    refine hz_iald (pc := 18) (j := i) (hz_dec kX5_firstNow 10 rfl) g4 (by omega) (by omega) rfl (by omega) (by decide) ?_
    refine hz_eqi (pc := 19) (hX (i) (by omega)).2.2.2 ?_
    refine hz_aloadn (pc := 19) 1 (hz_dec kX5_firstNow 11 rfl) rfl ?_
    refine hz_get (pc := 20) (hz_dec kX5_firstNow 12 rfl) fo_X5_59 hO (by omega) (by omega) rfl ?_
    refine hz_icmp_ne (pc := 23) (tgt := 28) (hz_dec kX5_firstNow 13 rfl) (by decide) (fun h2 => ?_) (fun h2 => ?_)
    · skip
      refine hz_incN (pc := 28) (i := 1) (lo2 := [(1, .int (nI (i + 1))), (0, .ref 45)]) 0 (hz_dec kX5_firstNow 16 rfl) rfl (by decide) rfl ?_
      refine hz_goto (pc := 31) (tgt := 2) (hz_dec kX5_firstNow 17 rfl) (by decide) ?_
      refine hz_pick (pc := 2) [0, 1] rfl ?_
      refine ih (q.length - (i + 1)) (by omega) (i + 1) rfl (by omega) (fun j hj => ?_)
      rcases (show j = i ∨ j < i by omega) with e | c
      · rw [e]; exact decide_eq_false h2
      · exact hno j c
    · skip
      refine hz_iloadn (pc := 26) 0 (hz_dec kX5_firstNow 14 rfl) rfl ?_
      refine hz_iret (pc := 27) (hz_dec kX5_firstNow 15 rfl) rfl ⟨?_, rfl, rfl⟩
      unfold ixI nwF
      rw [fsI_at (i := i) (p := fun k => decide ((msL q k).2.2.2.1 = now)) (decide_eq_true h2) hno _ (by omega), if_pos (by omega)]
set_option maxHeartbeats 4000000 in
set_option maxRecDepth 100000 in
theorem c_fnow {κ : hz_C} {z : Nat} {M : hz_M} (hz : 63 ≤ z) {nn : Nat} {now gone : Int32} {ll : Nat} {fr kn : Int32} (hO : M 45 = mlO nn now gone ll fr kn) (hnn : nn ≤ 6) {q : List ms_M} (hQ : mlQ M q) : hz_Mt κ xX5_firstNow 0 0 0 [.ref 45] z M (hz_ex (some (.int (ixI (nwF q now) q.length))) z M) := by
  refine hz_ent (lo := [(0, .ref 45)]) (by decide) (Nat.le_of_ble_eq_true rfl) rfl ?_
  refine hz_iconst (pc := 0) (v := nI 0) (hz_dec kX5_firstNow 0 rfl) (by decide) ?_
  refine hz_istoren (pc := 1) (i := 1) (lo2 := [(1, .int (nI 0)), (0, .ref 45)]) (hz_dec kX5_firstNow 1 rfl) rfl (by decide) rfl ?_
  refine hz_pick (pc := 2) [0, 1] rfl ?_
  exact c_fnow_l hz hO hnn hQ q.length 0 rfl (by omega) (fun j hj => absurd hj (by omega))
set_option maxHeartbeats 4000000 in
set_option maxRecDepth 100000 in
theorem c_hold {κ : hz_C} {z : Nat} {M : hz_M} (hz : 63 ≤ z) {nn : Nat} {now gone : Int32} {ll : Nat} {fr kn : Int32} (hO : M 45 = mlO nn now gone ll fr kn) (hnn : nn ≤ 6) {b n at_ : Nat} {f f53 : Nat → Int32} {t : by_L} (hB : M b = .inl (1, n, .inl f)) (hb8 : 8 ≤ b) (hbz : b < z) (hb45 : ¬ b = 45) (hn : n < 2 ^ 24) (ht : isA f at_ t) (hat : at_ + t.length ≤ n) (h53 : M 53 = .inl (1, 4000, .inl f53)) (hl4 : t.length ≤ 4000) : hz_Mt κ xX5_hold 2 0 0 [.ref 45, .ref b, .int (nI at_), .int (nI t.length)] z M (fun r z2 M2 => none = r ∧ z = z2 ∧ frS [(45, 46), (53, 54)] M M2 ∧ M2 45 = mlO nn now gone t.length fr kn ∧ ∃ g : Nat → Int32, M2 53 = .inl (1, 4000, .inl g) ∧ isA g 0 t) := by
  refine hz_ent (lo := [(0, .ref 45), (1, .ref b), (2, .int (nI at_)), (3, .int (nI (t.length)))]) (by decide) (Nat.le_of_ble_eq_true rfl) rfl ?_
  refine hz_aloadn (pc := 0) 1 (hz_dec kX5_hold 0 rfl) rfl ?_
  refine hz_iloadn (pc := 1) 2 (hz_dec kX5_hold 1 rfl) rfl ?_
  refine hz_aloadn (pc := 2) 0 (hz_dec kX5_hold 2 rfl) rfl ?_
  refine hz_get (pc := 3) (hz_dec kX5_hold 3 rfl) fo_X5_34 hO (by omega) (by omega) rfl ?_
  refine hz_iconst (pc := 6) (v := nI 0) (hz_dec kX5_hold 4 rfl) (by decide) ?_
  refine hz_iloadn (pc := 7) 3 (hz_dec kX5_hold 5 rfl) rfl ?_
  refine hz_xS (pc := 8) (As := [.ref b, .int (nI at_), .ref 53, .int (nI 0), .int (nI (t.length))]) (st := []) (hz_dec kX5_hold 6 rfl) co_X5_86 sc_X0_copy (c_copy hB hb8 hbz (by omega) h53 (by decide) (by omega) (by decide) (by omega) (by omega)) rfl (by decide) ⟨Nat.le_refl _, Nat.le_refl _⟩ (Nat.le_of_ble_eq_true rfl) rfl ?_
  refine hz_aloadn (pc := 11) 0 (hz_dec kX5_hold 7 rfl) rfl ?_
  refine hz_iloadn (pc := 12) 3 (hz_dec kX5_hold 8 rfl) rfl ?_
  refine hz_puti (pc := 13) (hz_dec kX5_hold 9 rfl) fo_X5_92 ft_X5_10 (hz_mne hO (by omega)) (by omega) (by omega) (Nat.le_of_ble_eq_true rfl) ?_
  refine hz_mem (pc := 16) (M2 := (va_up (va_up M 53 (.inl (1, 4000, .inl (va_cpy f f53 at_ 0 t.length)))) 45 (.inr (5, [.ref 46, .ref 49, .ref 50, .ref 51, .ref 52, .int (nI nn), .ref 54, .int now, .int gone, .ref 53, .int (nI (t.length)), .int fr, .int kn])))) rfl ?_
  refine hz_vret (pc := 16) (hz_dec kX5_hold 10 rfl) rfl ⟨rfl, rfl, frS.upr (frS.up (by simp only [outS, and_true]; omega)) (by simp only [outS, and_true]; omega), va_up_self _ _ _, _, hz_mne (va_up_self _ _ _) (by decide), fun j hj => ?_⟩
  unfold va_cpy
  rw [Nat.zero_add, if_pos (by omega), Nat.sub_zero]
  exact ht j hj
set_option maxHeartbeats 4000000 in
set_option maxRecDepth 100000 in
theorem c_mrem {κ : hz_C} {z : Nat} {M : hz_M} (hz : 63 ≤ z) {nn : Nat} {now gone : Int32} {ll : Nat} {fr kn : Int32} (hO : M 45 = mlO nn now gone ll fr kn) (hnn : nn ≤ 6) {q : List ms_M} (hQ : mlQ M q) {k0 : Nat} (hk0 : k0 < q.length) : hz_Mt κ xX5_remove 2 0 0 [.ref 45, .int (nI k0)] z M (fun r z2 M2 => none = r ∧ z = z2 ∧ frS [(46, 53)] M M2 ∧ mlQ M2 (q.eraseIdx k0)) := by
  refine hz_ent (lo := [(0, .ref 45), (1, .int (nI k0))]) (by decide) (Nat.le_of_ble_eq_true rfl) rfl ?_
  obtain ⟨hrw, f1, f2, f3, f4, g1, g2, g3, g4, hX⟩ := id hQ
  obtain ⟨hO1, hle1, hoff1, fx, gx, hfx, hgx, hrX⟩ := id hrw
  rw [msB_len] at hO1 hle1
  refine hz_iloadn (pc := 0) 1 (hz_dec kX5_remove 0 rfl) rfl ?_
  refine hz_z_lt (pc := 1) (tgt := 15) (hz_dec kX5_remove 1 rfl) (by decide) (by omega) ?_
  refine hz_iloadn (pc := 4) 1 (hz_dec kX5_remove 2 rfl) rfl ?_
  refine hz_aloadn (pc := 5) 0 (hz_dec kX5_remove 3 rfl) rfl ?_
  refine hz_get (pc := 6) (hz_dec kX5_remove 4 rfl) fo_X5_15 hO (by omega) (by omega) rfl ?_
  refine hz_get (pc := 9) (hz_dec kX5_remove 5 rfl) fo_X5_49 hO1 (by omega) (by omega) rfl ?_
  refine hz_n_lt (pc := 12) (tgt := 16) (hz_dec kX5_remove 6 rfl) (by decide) (by omega) (by omega) (fun h1 => ?_) (fun h1 => ?_)
  · skip
    refine hz_aloadn (pc := 16) 0 (hz_dec kX5_remove 8 rfl) rfl ?_
    refine hz_get (pc := 17) (hz_dec kX5_remove 9 rfl) fo_X5_15 hO (by omega) (by omega) rfl ?_
    refine hz_iloadn (pc := 20) 1 (hz_dec kX5_remove 10 rfl) rfl ?_
    refine hz_callV (pc := 21) (a := 46) (As := [.int (nI k0)]) (st := []) (hz_dec kX5_remove 11 rfl) co_X5_95 im_X7_remove se_X7_remove rfl hO1 (by omega) (by omega) (c_rwRem hrw (by decide) (by omega) (by decide) (by decide) (by rw [msB_len]; exact hk0)) rfl (by decide) ⟨Nat.le_refl _, Nat.le_refl _⟩ (Nat.le_of_ble_eq_true rfl) rfl (fun r9 z9 M1 hp9 => ?_)
    obtain ⟨rfl, rfl, hf1, hr1⟩ := hp9
    obtain ⟨hO11, -⟩ := id hr1
    rw [er_len (by rw [msB_len]; exact hk0), msB_len] at hO11
    have k1 : M1 49 = .inl (0, 200, .inl f1) := (hf1.at1 (by omega)).trans g1
    have k2 : M1 50 = .inl (0, 200, .inl f2) := (hf1.at1 (by omega)).trans g2
    have k3 : M1 51 = .inl (0, 200, .inl f3) := (hf1.at1 (by omega)).trans g3
    have k4 : M1 52 = .inl (0, 200, .inl f4) := (hf1.at1 (by omega)).trans g4
    have hOb : M1 45 = mlO nn now gone ll fr kn := (hf1.at1 (by omega)).trans hO
    refine hz_aloadn (pc := 24) 0 (hz_dec kX5_remove 12 rfl) rfl ?_
    refine hz_get (pc := 25) (hz_dec kX5_remove 13 rfl) fo_X5_15 hOb (by omega) (by omega) rfl ?_
    refine hz_get (pc := 28) (hz_dec kX5_remove 14 rfl) fo_X5_49 hO11 (by omega) (by omega) rfl ?_
    refine hz_iloadn (pc := 31) 1 (hz_dec kX5_remove 15 rfl) rfl ?_
    refine hz_subN (pc := 32) (hz_dec kX5_remove 16 rfl) (by omega) ?_
    refine hz_istoren (pc := 33) (i := 2) (lo2 := [(2, .int (nI ((q.length - 1) - k0))), (0, .ref 45), (1, .int (nI k0))]) (hz_dec kX5_remove 17 rfl) rfl (by decide) rfl ?_
    refine hz_aloadn (pc := 34) 1 (hz_dec kX5_remove 18 rfl) rfl ?_
    refine hz_get (pc := 35) (hz_dec kX5_remove 19 rfl) fo_X5_21 hOb (by omega) (by omega) rfl ?_
    refine hz_iloadn (pc := 38) 2 (hz_dec kX5_remove 20 rfl) rfl ?_
    refine hz_iconst (pc := 39) (v := nI 1) (hz_dec kX5_remove 21 rfl) (by decide) ?_
    refine hz_addN (pc := 40) (hz_dec kX5_remove 22 rfl) ?_
    refine hz_aloadn (pc := 41) 1 (hz_dec kX5_remove 23 rfl) rfl ?_
    refine hz_get (pc := 42) (hz_dec kX5_remove 24 rfl) fo_X5_21 hOb (by omega) (by omega) rfl ?_
    refine hz_iloadn (pc := 45) 2 (hz_dec kX5_remove 25 rfl) rfl ?_
    refine hz_iloadn (pc := 46) 0 (hz_dec kX5_remove 26 rfl) rfl ?_
    refine hz_copyI (pc := 47) (hz_dec kX5_remove 27 rfl) ac_X5_96 k1 (by decide) (by omega) k1 (by decide) (by omega) (by omega) (by omega) (by decide) (by decide) (by decide) (by decide) ?_
    refine hz_aloadn (pc := 50) 1 (hz_dec kX5_remove 28 rfl) rfl ?_
    refine hz_get (pc := 51) (hz_dec kX5_remove 29 rfl) fo_X5_25 (hz_mne hOb (by omega)) (by omega) (by omega) rfl ?_
    refine hz_iloadn (pc := 54) 2 (hz_dec kX5_remove 30 rfl) rfl ?_
    refine hz_iconst (pc := 55) (v := nI 1) (hz_dec kX5_remove 31 rfl) (by decide) ?_
    refine hz_addN (pc := 56) (hz_dec kX5_remove 32 rfl) ?_
    refine hz_aloadn (pc := 57) 1 (hz_dec kX5_remove 33 rfl) rfl ?_
    refine hz_get (pc := 58) (hz_dec kX5_remove 34 rfl) fo_X5_25 (hz_mne hOb (by omega)) (by omega) (by omega) rfl ?_
    refine hz_iloadn (pc := 61) 2 (hz_dec kX5_remove 35 rfl) rfl ?_
    refine hz_iloadn (pc := 62) 0 (hz_dec kX5_remove 36 rfl) rfl ?_
    refine hz_copyI (pc := 63) (hz_dec kX5_remove 37 rfl) ac_X5_96 (hz_mne k2 (by omega)) (by decide) (by omega) (hz_mne k2 (by omega)) (by decide) (by omega) (by omega) (by omega) (by decide) (by decide) (by decide) (by decide) ?_
    refine hz_aloadn (pc := 66) 1 (hz_dec kX5_remove 38 rfl) rfl ?_
    refine hz_get (pc := 67) (hz_dec kX5_remove 39 rfl) fo_X5_28 (hz_mne (hz_mne hOb (by omega)) (by omega)) (by omega) (by omega) rfl ?_
    refine hz_iloadn (pc := 70) 2 (hz_dec kX5_remove 40 rfl) rfl ?_
    refine hz_iconst (pc := 71) (v := nI 1) (hz_dec kX5_remove 41 rfl) (by decide) ?_
    refine hz_addN (pc := 72) (hz_dec kX5_remove 42 rfl) ?_
    refine hz_aloadn (pc := 73) 1 (hz_dec kX5_remove 43 rfl) rfl ?_
    refine hz_get (pc := 74) (hz_dec kX5_remove 44 rfl) fo_X5_28 (hz_mne (hz_mne hOb (by omega)) (by omega)) (by omega) (by omega) rfl ?_
    refine hz_iloadn (pc := 77) 2 (hz_dec kX5_remove 45 rfl) rfl ?_
    refine hz_iloadn (pc := 78) 0 (hz_dec kX5_remove 46 rfl) rfl ?_
    refine hz_copyI (pc := 79) (hz_dec kX5_remove 47 rfl) ac_X5_96 (hz_mne (hz_mne k3 (by omega)) (by omega)) (by decide) (by omega) (hz_mne (hz_mne k3 (by omega)) (by omega)) (by decide) (by omega) (by omega) (by omega) (by decide) (by decide) (by decide) (by decide) ?_
    refine hz_aloadn (pc := 82) 1 (hz_dec kX5_remove 48 rfl) rfl ?_
    refine hz_get (pc := 83) (hz_dec kX5_remove 49 rfl) fo_X5_31 (hz_mne (hz_mne (hz_mne hOb (by omega)) (by omega)) (by omega)) (by omega) (by omega) rfl ?_
    refine hz_iloadn (pc := 86) 2 (hz_dec kX5_remove 50 rfl) rfl ?_
    refine hz_iconst (pc := 87) (v := nI 1) (hz_dec kX5_remove 51 rfl) (by decide) ?_
    refine hz_addN (pc := 88) (hz_dec kX5_remove 52 rfl) ?_
    refine hz_aloadn (pc := 89) 1 (hz_dec kX5_remove 53 rfl) rfl ?_
    refine hz_get (pc := 90) (hz_dec kX5_remove 54 rfl) fo_X5_31 (hz_mne (hz_mne (hz_mne hOb (by omega)) (by omega)) (by omega)) (by omega) (by omega) rfl ?_
    refine hz_iloadn (pc := 93) 2 (hz_dec kX5_remove 55 rfl) rfl ?_
    refine hz_iloadn (pc := 94) 0 (hz_dec kX5_remove 56 rfl) rfl ?_
    refine hz_copyI (pc := 95) (hz_dec kX5_remove 57 rfl) ac_X5_96 (hz_mne (hz_mne (hz_mne k4 (by omega)) (by omega)) (by omega)) (by decide) (by omega) (hz_mne (hz_mne (hz_mne k4 (by omega)) (by omega)) (by omega)) (by decide) (by omega) (by omega) (by omega) (by decide) (by decide) (by decide) (by decide) ?_
    refine hz_vret (pc := 98) (hz_dec kX5_remove 58 rfl) rfl ⟨rfl, rfl, (frS.upr (frS.upr (frS.upr (frS.upr (hf1.mono (fun x hx => by simp only [outS, and_true] at hx ⊢; omega)) (by simp only [outS, and_true]; omega)) (by simp only [outS, and_true]; omega)) (by simp only [outS, and_true]; omega)) (by simp only [outS, and_true]; omega)), by rw [msB_er]; exact hr1.fr (fun x q1 q2 => hz_mne (hz_mne (hz_mne (hz_mne rfl (by omega)) (by omega)) (by omega)) (by omega)), _, _, _, _, (hz_mne (hz_mne (hz_mne (va_up_self _ _ _) (by omega)) (by omega)) (by omega)), (hz_mne (hz_mne (va_up_self _ _ _) (by omega)) (by omega)), (hz_mne (va_up_self _ _ _) (by omega)), (va_up_self _ _ _), msX_er hX hk0 (fun j hj => ?_) (fun j hj hj2 => ?_)⟩
    · simp only [va_cpy]
      simp only [if_neg (show ¬ (k0 ≤ j ∧ j < k0 + (q.length - 1 - k0)) by omega)]
      exact ⟨trivial, trivial, trivial, trivial⟩
    · simp only [va_cpy]
      simp only [if_pos (show k0 ≤ j ∧ j < k0 + (q.length - 1 - k0) by omega), show k0 + 1 + (j - k0) = j + 1 by omega]
      exact ⟨trivial, trivial, trivial, trivial⟩
  · skip
    exact absurd hk0 (by omega)
