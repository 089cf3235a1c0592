/-! Tree: middleTime, dueBits -/
set_option maxHeartbeats 4000000 in
set_option maxRecDepth 100000 in
theorem c_minI {κ : hz_C} {z : Nat} {M : hz_M} {a_ b_ : Int32} : hz_Mt κ xJ9_min_7cf53 0 0 0 [.int a_, .int b_] z M (hz_ex (some (.int (if b_ < a_ then b_ else a_))) z M) := by
  refine hz_entF (lo := [(0, .int a_), (1, .int b_)]) (by decide +kernel) (Nat.le_of_ble_eq_true rfl) rfl ?_
  refine hz_iloadn (pc := 0) 0 (hz_dec kJ9_min_7cf53 0 rfl) rfl ?_
  refine hz_iloadn (pc := 1) 1 (hz_dec kJ9_min_7cf53 1 rfl) rfl ?_
  refine hz_icmp_gt (pc := 2) (tgt := 9) (hz_dec kJ9_min_7cf53 2 rfl) (by decide) (fun q1 => ?_) (fun q1 => ?_)
  · skip
    refine hz_iloadn (pc := 9) 1 (hz_dec kJ9_min_7cf53 5 rfl) rfl ?_
    exact hz_iret (pc := 10) (hz_dec kJ9_min_7cf53 6 rfl) rfl ⟨by rw [if_pos q1], rfl, rfl⟩
  · skip
    refine hz_iloadn (pc := 5) 0 (hz_dec kJ9_min_7cf53 3 rfl) rfl ?_
    refine hz_goto (pc := 6) (tgt := 10) (hz_dec kJ9_min_7cf53 4 rfl) (by decide) ?_
    exact hz_iret (pc := 10) (hz_dec kJ9_min_7cf53 6 rfl) rfl ⟨by rw [if_neg q1], rfl, rfl⟩
set_option maxHeartbeats 4000000 in
set_option maxRecDepth 100000 in
theorem c_maxI {κ : hz_C} {z : Nat} {M : hz_M} {a_ b_ : Int32} : hz_Mt κ xJ9_max_7cf53 0 0 0 [.int a_, .int b_] z M (hz_ex (some (.int (if a_ < b_ then b_ else a_))) z M) := by
  refine hz_entF (lo := [(0, .int a_), (1, .int b_)]) (by decide +kernel) (Nat.le_of_ble_eq_true rfl) rfl ?_
  refine hz_iloadn (pc := 0) 0 (hz_dec kJ9_max_7cf53 0 rfl) rfl ?_
  refine hz_iloadn (pc := 1) 1 (hz_dec kJ9_max_7cf53 1 rfl) rfl ?_
  refine hz_icmp_lt (pc := 2) (tgt := 9) (hz_dec kJ9_max_7cf53 2 rfl) (by decide) (fun q1 => ?_) (fun q1 => ?_)
  · skip
    refine hz_iloadn (pc := 9) 1 (hz_dec kJ9_max_7cf53 5 rfl) rfl ?_
    exact hz_iret (pc := 10) (hz_dec kJ9_max_7cf53 6 rfl) rfl ⟨by rw [if_pos q1], rfl, rfl⟩
  · skip
    refine hz_iloadn (pc := 5) 0 (hz_dec kJ9_max_7cf53 3 rfl) rfl ?_
    refine hz_goto (pc := 6) (tgt := 10) (hz_dec kJ9_max_7cf53 4 rfl) (by decide) ?_
    exact hz_iret (pc := 10) (hz_dec kJ9_max_7cf53 6 rfl) rfl ⟨by rw [if_neg q1], rfl, rfl⟩
set_option maxHeartbeats 4000000 in
set_option maxRecDepth 100000 in
theorem c_mid_i {κ : hz_C} {z : Nat} {M : hz_M} {t : Nat} {bl : List bk_B} {tip : Nat} {en : List en_E} (h : trR M t bl tip en) (ht8 : 63 ≤ t) (htz : t + 13 ≤ z) {P : hz_P} {x n x0 : Nat} (hx : x < en.length) : ∀ i f, i ≤ 10 → hz_W κ xX10_middleTime 0 0 0 P 0 0 86 [(3, .int (nI x)), (2, .int (nI n)), (0, .ref t), (1, .int (nI x0))] [] z (va_up M (t + 12) (.inl (0, 11, .inl (insF (eT en x) i f)))) → hz_W κ xX10_middleTime 0 0 0 P 0 0 28 [(4, .int (nI i)), (3, .int (nI x)), (2, .int (nI n)), (0, .ref t), (1, .int (nI x0))] [] z (va_up M (t + 12) (.inl (0, 11, .inl (f)))) := by
  intro i
  induction i with
  | zero =>
    intro f hi K
    obtain ⟨hT, hrw, ⟨fh, hfh, hfhX⟩, ⟨fb, fht, ftm, fbi, hfb, hfht, hftm, hfbi, hEX⟩, ⟨fto, hfto, hftoX⟩, ⟨fid, hfid, hfidX⟩, ⟨fc, hfc, hfcX⟩, ⟨fm, hfm⟩, hl113, hlen, hen, hst, hwf, htip⟩ := id h
    obtain ⟨hO1, hle1, hoff1, f1, g1, hf1, hg1, hX1⟩ := id hrw
    rw [List.length_map] at hO1 hle1
    refine hz_iload (pc := 28) 0 (hz_dec kX10_middleTime 18 rfl) rfl ?_
    refine hz_z_le (pc := 30) (tgt := 73) (hz_dec kX10_middleTime 19 rfl) (by decide) (by omega) (fun h1 => ?_) (fun h1 => ?_)
    · skip
      refine hz_aloadn (pc := 73) 3 (hz_dec kX10_middleTime 43 rfl) rfl ?_
      refine hz_get (pc := 74) (hz_dec kX10_middleTime 44 rfl) fo_X10_47 (hz_mne hT (by omega)) (by omega) (by omega) rfl ?_
      refine hz_iload (pc := 77) 0 (hz_dec kX10_middleTime 45 rfl) rfl ?_
      refine hz_aloadn (pc := 79) 3 (hz_dec kX10_middleTime 46 rfl) rfl ?_
      refine hz_get (pc := 80) (hz_dec kX10_middleTime 47 rfl) fo_X10_31 (hz_mne hT (by omega)) (by omega) (by omega) rfl ?_
      refine hz_iloadn (pc := 83) 1 (hz_dec kX10_middleTime 48 rfl) rfl ?_
      refine hz_iald (pc := 84) (j := x) (hz_dec kX10_middleTime 49 rfl) (hz_mne hftm (by omega)) (by omega) (by omega) rfl (by omega) (by decide) ?_
      refine hz_eqi (pc := 85) (hEX (x) (by omega)).2.2.1 ?_
      refine hz_iast (pc := 85) (j := 0) (hz_dec kX10_middleTime 50 rfl) (va_up_self _ _ _) (by omega) (by omega) rfl (by omega) (by decide) ?_
      refine hz_mem (pc := 86) (M2 := (va_up M (t + 12) (.inl (0, 11, .inl (upd f 0 ((eT en (x)))))))) (bx_uu _ _ _ _) ?_
      refine hz_pick (pc := 86) [1, 2, 3, 4] rfl ?_
      exact K
    · skip
      exact absurd h1 (by omega)
  | succ i ih =>
    intro f hi K
    obtain ⟨hT, hrw, ⟨fh, hfh, hfhX⟩, ⟨fb, fht, ftm, fbi, hfb, hfht, hftm, hfbi, hEX⟩, ⟨fto, hfto, hftoX⟩, ⟨fid, hfid, hfidX⟩, ⟨fc, hfc, hfcX⟩, ⟨fm, hfm⟩, hl113, hlen, hen, hst, hwf, htip⟩ := id h
    obtain ⟨hO1, hle1, hoff1, f1, g1, hf1, hg1, hX1⟩ := id hrw
    rw [List.length_map] at hO1 hle1
    refine hz_iload (pc := 28) 0 (hz_dec kX10_middleTime 18 rfl) rfl ?_
    refine hz_z_le (pc := 30) (tgt := 73) (hz_dec kX10_middleTime 19 rfl) (by decide) (by omega) (fun h1 => ?_) (fun h1 => ?_)
    · skip
      exact absurd h1 (by omega)
    · skip
      refine hz_aloadn (pc := 33) 3 (hz_dec kX10_middleTime 20 rfl) rfl ?_
      refine hz_get (pc := 34) (hz_dec kX10_middleTime 21 rfl) fo_X10_47 (hz_mne hT (by omega)) (by omega) (by omega) rfl ?_
      refine hz_iload (pc := 37) 0 (hz_dec kX10_middleTime 22 rfl) rfl ?_
      refine hz_iconst (pc := 39) (v := nI 1) (hz_dec kX10_middleTime 23 rfl) (by decide) ?_
      refine hz_subN (pc := 40) (hz_dec kX10_middleTime 24 rfl) (by omega) ?_
      refine hz_iald (pc := 41) (j := (i + 1) - 1) (hz_dec kX10_middleTime 25 rfl) (va_up_self _ _ _) (by omega) (by omega) rfl (by omega) (by decide) ?_
      refine hz_eqi (pc := 42) (show f ((i + 1) - 1) = f i from rfl) ?_
      refine hz_aloadn (pc := 42) 3 (hz_dec kX10_middleTime 26 rfl) rfl ?_
      refine hz_get (pc := 43) (hz_dec kX10_middleTime 27 rfl) fo_X10_31 (hz_mne hT (by omega)) (by omega) (by omega) rfl ?_
      refine hz_iloadn (pc := 46) 1 (hz_dec kX10_middleTime 28 rfl) rfl ?_
      refine hz_iald (pc := 47) (j := x) (hz_dec kX10_middleTime 29 rfl) (hz_mne hftm (by omega)) (by omega) (by omega) rfl (by omega) (by decide) ?_
      refine hz_eqi (pc := 48) (hEX (x) (by omega)).2.2.1 ?_
      refine hz_icmp_le (pc := 48) (tgt := 73) (hz_dec kX10_middleTime 30 rfl) (by decide) (fun h2 => ?_) (fun h2 => ?_)
      · skip
        rw [insF, if_neg (Int32.not_lt.mpr h2)] at K
        refine hz_aloadn (pc := 73) 3 (hz_dec kX10_middleTime 43 rfl) rfl ?_
        refine hz_get (pc := 74) (hz_dec kX10_middleTime 44 rfl) fo_X10_47 (hz_mne hT (by omega)) (by omega) (by omega) rfl ?_
        refine hz_iload (pc := 77) 0 (hz_dec kX10_middleTime 45 rfl) rfl ?_
        refine hz_aloadn (pc := 79) 3 (hz_dec kX10_middleTime 46 rfl) rfl ?_
        refine hz_get (pc := 80) (hz_dec kX10_middleTime 47 rfl) fo_X10_31 (hz_mne hT (by omega)) (by omega) (by omega) rfl ?_
        refine hz_iloadn (pc := 83) 1 (hz_dec kX10_middleTime 48 rfl) rfl ?_
        refine hz_iald (pc := 84) (j := x) (hz_dec kX10_middleTime 49 rfl) (hz_mne hftm (by omega)) (by omega) (by omega) rfl (by omega) (by decide) ?_
        refine hz_eqi (pc := 85) (hEX (x) (by omega)).2.2.1 ?_
        refine hz_iast (pc := 85) (j := i + 1) (hz_dec kX10_middleTime 50 rfl) (va_up_self _ _ _) (by omega) (by omega) rfl (by omega) (by decide) ?_
        refine hz_mem (pc := 86) (M2 := (va_up M (t + 12) (.inl (0, 11, .inl (upd f (i + 1) ((eT en (x)))))))) (bx_uu _ _ _ _) ?_
        refine hz_pick (pc := 86) [1, 2, 3, 4] rfl ?_
        exact K
      · skip
        rw [insF, if_pos (Int32.not_le.mp h2)] at K
        refine hz_aloadn (pc := 51) 3 (hz_dec kX10_middleTime 31 rfl) rfl ?_
        refine hz_get (pc := 52) (hz_dec kX10_middleTime 32 rfl) fo_X10_47 (hz_mne hT (by omega)) (by omega) (by omega) rfl ?_
        refine hz_iload (pc := 55) 0 (hz_dec kX10_middleTime 33 rfl) rfl ?_
        refine hz_aloadn (pc := 57) 3 (hz_dec kX10_middleTime 34 rfl) rfl ?_
        refine hz_get (pc := 58) (hz_dec kX10_middleTime 35 rfl) fo_X10_47 (hz_mne hT (by omega)) (by omega) (by omega) rfl ?_
        refine hz_iload (pc := 61) 0 (hz_dec kX10_middleTime 36 rfl) rfl ?_
        refine hz_iconst (pc := 63) (v := nI 1) (hz_dec kX10_middleTime 37 rfl) (by decide) ?_
        refine hz_subN (pc := 64) (hz_dec kX10_middleTime 38 rfl) (by omega) ?_
        refine hz_iald (pc := 65) (j := (i + 1) - 1) (hz_dec kX10_middleTime 39 rfl) (va_up_self _ _ _) (by omega) (by omega) rfl (by omega) (by decide) ?_
        refine hz_eqi (pc := 66) (show f ((i + 1) - 1) = f i from rfl) ?_
        refine hz_iast (pc := 66) (j := i + 1) (hz_dec kX10_middleTime 40 rfl) (va_up_self _ _ _) (by omega) (by omega) rfl (by omega) (by decide) ?_
        refine hz_mem (pc := 67) (M2 := (va_up M (t + 12) (.inl (0, 11, .inl (upd f (i + 1) ((f i))))))) (bx_uu _ _ _ _) ?_
        refine hz_decN (pc := 67) (i := 4) (lo2 := [(4, .int (nI i)), (3, .int (nI x)), (2, .int (nI n)), (0, .ref t), (1, .int (nI x0))]) 0 (hz_dec kX10_middleTime 41 rfl) rfl (by decide) rfl ?_
        refine hz_goto (pc := 70) (tgt := 28) (hz_dec kX10_middleTime 42 rfl) (by decide) ?_
        refine hz_pick (pc := 28) [0, 1, 2, 3, 4] rfl ?_
        exact ih _ (by omega) K
set_option maxHeartbeats 4000000 in
set_option maxRecDepth 100000 in
theorem c_mid_o {κ : hz_C} {z : Nat} {M : hz_M} {t : Nat} {bl : List bk_B} {tip : Nat} {en : List en_E} (h : trR M t bl tip en) (ht8 : 63 ≤ t) (htz : t + 13 ≤ z) {v9 : Int32} {x0 : Nat} : ∀ m n p f, m + n = 11 → 1 ≤ (midF en m n p f).2 → (∀ x, p = some x → x < en.length) → (midF en m n p f).1 ((midF en m n p f).2 / 2) = v9 → hz_W κ xX10_middleTime 0 0 0 (fun r z2 M2 => some (.int v9) = r ∧ z = z2 ∧ ∃ f : Nat → Int32, va_up M (t + 12) (.inl (0, 11, .inl f)) = M2) 0 0 15 [(3, .int (pvI p)), (2, .int (nI n)), (0, .ref t), (1, .int (nI x0))] [] z (va_up M (t + 12) (.inl (0, 11, .inl (f)))) := by
  intro m
  induction m with
  | zero =>
    intro n p f hmn h1 hp hv
    obtain ⟨hT, hrw, ⟨fh, hfh, hfhX⟩, ⟨fb, fht, ftm, fbi, hfb, hfht, hftm, hfbi, hEX⟩, ⟨fto, hfto, hftoX⟩, ⟨fid, hfid, hfidX⟩, ⟨fc, hfc, hfcX⟩, ⟨fm, hfm⟩, hl113, hlen, hen, hst, hwf, htip⟩ := id h
    obtain ⟨hO1, hle1, hoff1, f1, g1, hf1, hg1, hX1⟩ := id hrw
    rw [List.length_map] at hO1 hle1
    have e : n = 11 := by omega
    subst e
    refine hz_iloadn (pc := 15) 0 (hz_dec kX10_middleTime 11 rfl) rfl ?_
    refine hz_if_lt (pc := 16) (tgt := 99) (hz_dec kX10_middleTime 12 rfl) (by decide) (fun h2 => ?_) (fun h2 => ?_)
    · skip
      refine hz_aloadn (pc := 99) 2 (hz_dec kX10_middleTime 58 rfl) rfl ?_
      refine hz_get (pc := 100) (hz_dec kX10_middleTime 59 rfl) fo_X10_47 (hz_mne hT (by omega)) (by omega) (by omega) rfl ?_
      refine hz_iloadn (pc := 103) 1 (hz_dec kX10_middleTime 60 rfl) rfl ?_
      refine hz_iconst (pc := 104) (v := nI 2) (hz_dec kX10_middleTime 61 rfl) (by decide) ?_
      refine hz_divN (pc := 105) (hz_dec kX10_middleTime 62 rfl) (by omega) (by decide) (by decide) ?_
      refine hz_iald (pc := 106) (j := 11 / 2) (hz_dec kX10_middleTime 63 rfl) (va_up_self _ _ _) (by omega) (by omega) rfl (by omega) (by decide) ?_
      exact hz_iret (pc := 107) (hz_dec kX10_middleTime 64 rfl) rfl ⟨congrArg (fun y => some (Value.int y)) hv.symm, rfl, f, rfl⟩
    · skip
      refine hz_iloadn (pc := 19) 1 (hz_dec kX10_middleTime 13 rfl) rfl ?_
      refine hz_bipush (pc := 20) (v := nI 11) (hz_dec kX10_middleTime 14 rfl) (by decide) ?_
      refine hz_n_ge (pc := 22) (tgt := 99) (hz_dec kX10_middleTime 15 rfl) (by decide) (by omega) (by omega) (fun h3 => ?_) (fun h3 => ?_)
      · skip
        refine hz_aloadn (pc := 99) 2 (hz_dec kX10_middleTime 58 rfl) rfl ?_
        refine hz_get (pc := 100) (hz_dec kX10_middleTime 59 rfl) fo_X10_47 (hz_mne hT (by omega)) (by omega) (by omega) rfl ?_
        refine hz_iloadn (pc := 103) 1 (hz_dec kX10_middleTime 60 rfl) rfl ?_
        refine hz_iconst (pc := 104) (v := nI 2) (hz_dec kX10_middleTime 61 rfl) (by decide) ?_
        refine hz_divN (pc := 105) (hz_dec kX10_middleTime 62 rfl) (by omega) (by decide) (by decide) ?_
        refine hz_iald (pc := 106) (j := 11 / 2) (hz_dec kX10_middleTime 63 rfl) (va_up_self _ _ _) (by omega) (by omega) rfl (by omega) (by decide) ?_
        exact hz_iret (pc := 107) (hz_dec kX10_middleTime 64 rfl) rfl ⟨congrArg (fun y => some (Value.int y)) hv.symm, rfl, f, rfl⟩
      · skip
        exact absurd h3 (by omega)
  | succ m ih =>
    intro n p f hmn h1 hp hv
    obtain ⟨hT, hrw, ⟨fh, hfh, hfhX⟩, ⟨fb, fht, ftm, fbi, hfb, hfht, hftm, hfbi, hEX⟩, ⟨fto, hfto, hftoX⟩, ⟨fid, hfid, hfidX⟩, ⟨fc, hfc, hfcX⟩, ⟨fm, hfm⟩, hl113, hlen, hen, hst, hwf, htip⟩ := id h
    obtain ⟨hO1, hle1, hoff1, f1, g1, hf1, hg1, hX1⟩ := id hrw
    rw [List.length_map] at hO1 hle1
    cases p with
    | none =>
      have h1b : 1 ≤ n := h1
      refine hz_iloadn (pc := 15) 0 (hz_dec kX10_middleTime 11 rfl) rfl ?_
      refine hz_if_lt (pc := 16) (tgt := 99) (hz_dec kX10_middleTime 12 rfl) (by decide) (fun h2 => ?_) (fun h2 => ?_)
      · skip
        refine hz_aloadn (pc := 99) 2 (hz_dec kX10_middleTime 58 rfl) rfl ?_
        refine hz_get (pc := 100) (hz_dec kX10_middleTime 59 rfl) fo_X10_47 (hz_mne hT (by omega)) (by omega) (by omega) rfl ?_
        refine hz_iloadn (pc := 103) 1 (hz_dec kX10_middleTime 60 rfl) rfl ?_
        refine hz_iconst (pc := 104) (v := nI 2) (hz_dec kX10_middleTime 61 rfl) (by decide) ?_
        refine hz_divN (pc := 105) (hz_dec kX10_middleTime 62 rfl) (by omega) (by decide) (by decide) ?_
        refine hz_iald (pc := 106) (j := n / 2) (hz_dec kX10_middleTime 63 rfl) (va_up_self _ _ _) (by omega) (by omega) rfl (by omega) (by decide) ?_
        exact hz_iret (pc := 107) (hz_dec kX10_middleTime 64 rfl) rfl ⟨congrArg (fun y => some (Value.int y)) hv.symm, rfl, f, rfl⟩
      · skip
        exact absurd (by decide) h2
    | some x =>
      have hx := hp x rfl
      refine hz_iloadn (pc := 15) 0 (hz_dec kX10_middleTime 11 rfl) rfl ?_
      refine hz_z_lt (pc := 16) (tgt := 99) (hz_dec kX10_middleTime 12 rfl) (by decide) (by omega) ?_
      refine hz_iloadn (pc := 19) 1 (hz_dec kX10_middleTime 13 rfl) rfl ?_
      refine hz_bipush (pc := 20) (v := nI 11) (hz_dec kX10_middleTime 14 rfl) (by decide) ?_
      refine hz_n_ge (pc := 22) (tgt := 99) (hz_dec kX10_middleTime 15 rfl) (by decide) (by omega) (by omega) (fun h3 => ?_) (fun h3 => ?_)
      · skip
        exact absurd h3 (by omega)
      · skip
        refine hz_iloadn (pc := 25) 1 (hz_dec kX10_middleTime 16 rfl) rfl ?_
        refine hz_istore (pc := 26) (i := 4) (lo2 := [(4, .int (nI n)), (3, .int (nI x)), (2, .int (nI n)), (0, .ref t), (1, .int (nI x0))]) (hz_dec kX10_middleTime 17 rfl) (by decide) rfl ?_
        refine hz_pick (pc := 28) [0, 1, 2, 3, 4] rfl ?_
        refine c_mid_i h ht8 htz hx n f (by omega) ?_
        refine hz_incN (pc := 86) (i := 2) (lo2 := [(2, .int (nI (n + 1))), (3, .int (nI x)), (0, .ref t), (1, .int (nI x0))]) 1 (hz_dec kX10_middleTime 51 rfl) rfl (by decide) rfl ?_
        refine hz_aloadn (pc := 89) 2 (hz_dec kX10_middleTime 52 rfl) rfl ?_
        refine hz_get (pc := 90) (hz_dec kX10_middleTime 53 rfl) fo_X10_24 (hz_mne hT (by omega)) (by omega) (by omega) rfl ?_
        refine hz_iloadn (pc := 93) 1 (hz_dec kX10_middleTime 54 rfl) rfl ?_
        refine hz_iald (pc := 94) (j := x) (hz_dec kX10_middleTime 55 rfl) (hz_mne hfb (by omega)) (by omega) (by omega) rfl (by omega) (by decide) ?_
        refine hz_eqi (pc := 95) (hEX (x) (by omega)).1 ?_
        refine hz_istoren (pc := 95) (i := 3) (lo2 := [(3, .int (pvI (eP en (x)))), (2, .int (nI (n + 1))), (0, .ref t), (1, .int (nI x0))]) (hz_dec kX10_middleTime 56 rfl) rfl (by decide) rfl ?_
        refine hz_goto (pc := 96) (tgt := 15) (hz_dec kX10_middleTime 57 rfl) (by decide) ?_
        refine hz_pick (pc := 15) [0, 1, 2, 3] rfl ?_
        refine ih (n + 1) (eP en x) _ (by omega) h1 (fun y hy => ?_) hv
        have q := ((hwf x hx).1 y hy).1
        omega
set_option maxHeartbeats 4000000 in
set_option maxRecDepth 100000 in
theorem c_mid {κ : hz_C} {z : Nat} {M : hz_M} {t : Nat} {bl : List bk_B} {tip : Nat} {en : List en_E} (h : trR M t bl tip en) (ht8 : 63 ≤ t) (htz : t + 13 ≤ z) {x : Nat} (hx : x < en.length) : hz_Mt κ xX10_middleTime 0 0 0 [.ref t, .int (nI x)] z M (fun r z2 M2 => some (.int (midE en x)) = r ∧ z = z2 ∧ ∃ f : Nat → Int32, va_up M (t + 12) (.inl (0, 11, .inl f)) = M2) := by
  refine hz_ent (lo := [(0, .ref t), (1, .int (nI x))]) (by decide) (Nat.le_of_ble_eq_true rfl) rfl ?_
  obtain ⟨hT, hrw, ⟨fh, hfh, hfhX⟩, ⟨fb, fht, ftm, fbi, hfb, hfht, hftm, hfbi, hEX⟩, ⟨fto, hfto, hftoX⟩, ⟨fid, hfid, hfidX⟩, ⟨fc, hfc, hfcX⟩, ⟨fm, hfm⟩, hl113, hlen, hen, hst, hwf, htip⟩ := id h
  obtain ⟨hO1, hle1, hoff1, f1, g1, hf1, hg1, hX1⟩ := id hrw
  rw [List.length_map] at hO1 hle1
  refine hz_iloadn (pc := 0) 1 (hz_dec kX10_middleTime 0 rfl) rfl ?_
  refine hz_aloadn (pc := 1) 0 (hz_dec kX10_middleTime 1 rfl) rfl ?_
  refine hz_get (pc := 2) (hz_dec kX10_middleTime 2 rfl) fo_X10_31 hT (by omega) (by omega) rfl ?_
  refine hz_alen (pc := 5) (hz_dec kX10_middleTime 3 rfl) hftm (by decide) (by omega) (by omega) ?_
  refine hz_n_lt (pc := 6) (tgt := 11) (hz_dec kX10_middleTime 4 rfl) (by decide) (by omega) (by omega) (fun h0 => ?_) (fun h0 => ?_)
  · skip
    refine hz_iconst (pc := 11) (v := nI 0) (hz_dec kX10_middleTime 7 rfl) (by decide) ?_
    refine hz_istoren (pc := 12) (i := 2) (lo2 := [(2, .int (nI 0)), (0, .ref t), (1, .int (nI x))]) (hz_dec kX10_middleTime 8 rfl) rfl (by decide) rfl ?_
    refine hz_iloadn (pc := 13) 2 (hz_dec kX10_middleTime 9 rfl) rfl ?_
    refine hz_istoren (pc := 14) (i := 3) (lo2 := [(3, .int (nI x)), (2, .int (nI 0)), (0, .ref t), (1, .int (nI x))]) (hz_dec kX10_middleTime 10 rfl) rfl (by decide) rfl ?_
    refine hz_pick (pc := 15) [0, 1, 2, 3] rfl ?_
    refine hz_mem (pc := 15) (hz_upid hfm).symm ?_
    exact c_mid_o h ht8 htz 11 0 (some x) fm rfl (by have q := (midF_le en 10 1 (eP en x) (insF (eT en x) 0 fm)).1; exact q) (fun y hy => by cases hy; exact hx) midE_of
  · skip
    exact absurd h0 (by omega)
