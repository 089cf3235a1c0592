/-! the class: the digits of a transaction -/
set_option maxHeartbeats 4000000 in
set_option maxRecDepth 100000 in
theorem c_rd_1 {κ : hz_C} {z : Nat} {M : hz_M} (hO9 : M 9 = .inr (8, [.ref 10, .ref 11, .ref 12])) (hO13 : M 13 = .inr (4, [.ref 9, .ref 14, .ref 15, .ref 16, .ref 17, .ref 18, .ref 19])) (hz : 63 ≤ z) {g0 : Nat → Int32} (h19 : M 19 = .inl (1, 358, .inl g0)) {at_ s n : Nat} {f : Nat → Int32} (hn4 : n ≤ 4) {P : hz_P} (K : ∀ g : Nat → Int32, (∀ j, j < 358 → j < s → bb (g j) = if sgZ n j then 0 else bb (f (at_ + j))) → hz_W κ xX4_readDigits 2 0 0 P 0 0 96 [(0, .ref 13), (3, .int (nI s))] [] z (va_up M 19 (.inl (1, 358, .inl g)))) : ∀ k q g, k = n - q → q ≤ n → (∀ j, j < 358 → j < s → bb (g j) = if sgZ q j then 0 else bb (f (at_ + j))) → hz_W κ xX4_readDigits 2 0 0 P 0 0 57 [(5, .int (nI q)), (0, .ref 13), (3, .int (nI s)), (4, .int (nI n))] [] z (va_up M 19 (.inl (1, 358, .inl g))) := by
  intro k
  induction k using Nat.strongRecOn with
  | ind k ih =>
  intro q g hk hi hg
  refine hz_iload (pc := 57) 0 (hz_dec kX4_readDigits 35 rfl) rfl ?_
  refine hz_iload (pc := 59) 3 (hz_dec kX4_readDigits 36 rfl) rfl ?_
  refine hz_n_ge (pc := 61) (tgt := 96) (hz_dec kX4_readDigits 37 rfl) (by decide) (by omega) (by omega) (fun h1 => ?_) (fun h1 => ?_)
  · skip
    have e : q = n := by omega
    subst e
    refine hz_pick (pc := 96) [1, 2] rfl ?_
    exact K g hg
  · skip
    refine hz_iconst (pc := 64) (v := nI 0) (hz_dec kX4_readDigits 38 rfl) (by decide) ?_
    refine hz_iload (pc := 65) 0 (hz_dec kX4_readDigits 39 rfl) rfl ?_
    refine hz_xS (pc := 67) (As := [.int (nI 0), .int (nI q)]) (st := []) (hz_dec kX4_readDigits 40 rfl) co_X4_92 sc_X0_inputAt (c_inputAt (a := 0) (i := q)) rfl (by decide) ⟨Nat.le_refl _, Nat.le_refl _⟩ (Nat.le_of_ble_eq_true rfl) rfl ?_
    refine hz_bipush (pc := 70) (v := nI 9) (hz_dec kX4_readDigits 41 rfl) (by decide) ?_
    refine hz_addN (pc := 72) (hz_dec kX4_readDigits 42 rfl) ?_
    refine hz_istore (pc := 73) (i := 6) (lo2 := [(6, .int (nI ((0 + 2 + q * 73) + 9))), (5, .int (nI q)), (0, .ref 13), (3, .int (nI s)), (4, .int (nI n))]) (hz_dec kX4_readDigits 43 rfl) (by decide) rfl ?_
    refine hz_aloadn (pc := 75) 2 (hz_dec kX4_readDigits 44 rfl) rfl ?_
    refine hz_get (pc := 76) (hz_dec kX4_readDigits 45 rfl) fo_X4_29 (hz_mne hO13 (by decide)) (by decide) (by omega) rfl ?_
    refine hz_iload (pc := 79) 0 (hz_dec kX4_readDigits 46 rfl) rfl ?_
    refine hz_iload (pc := 81) 0 (hz_dec kX4_readDigits 47 rfl) rfl ?_
    refine hz_bipush (pc := 83) (v := nI 64) (hz_dec kX4_readDigits 48 rfl) (by decide) ?_
    refine hz_addN (pc := 85) (hz_dec kX4_readDigits 49 rfl) ?_
    refine hz_iconst (pc := 86) (v := nI 0) (hz_dec kX4_readDigits 50 rfl) (by decide) ?_
    refine hz_callS (pc := 87) (As := [.ref 19, .int (nI ((0 + 2 + q * 73) + 9)), .int (nI (((0 + 2 + q * 73) + 9) + 64)), .int (nI 0)]) (st := []) (hz_dec kX4_readDigits 51 rfl) co_X4_95 sc_J7_fill_eb02e (c_fillB (a := 0 + 2 + q * 73 + 9) (e := 0 + 2 + q * 73 + 9 + 64) (va_up_self _ _ _) (by decide) (by omega) (by decide) (by omega) (by omega)) rfl (by decide) ⟨Nat.le_refl _, Nat.le_refl _⟩ (Nat.le_of_ble_eq_true rfl) rfl (fun r9 z9 M9 hp9 => ?_)
    obtain ⟨rfl, rfl, g2, hg2, rfl⟩ := hp9
    refine hz_mem (pc := 90) (M2 := (va_up M 19 (.inl (1, 358, .inl (g2))))) (bx_uu _ _ _ _) ?_
    refine hz_incN (pc := 90) (i := 5) (lo2 := [(5, .int (nI (q + 1))), (6, .int (nI ((0 + 2 + q * 73) + 9))), (0, .ref 13), (3, .int (nI s)), (4, .int (nI n))]) 1 (hz_dec kX4_readDigits 52 rfl) rfl (by decide) rfl ?_
    refine hz_goto (pc := 93) (tgt := 57) (hz_dec kX4_readDigits 53 rfl) (by decide) ?_
    refine hz_pick (pc := 57) [0, 2, 3, 4] rfl ?_
    refine ih (n - (q + 1)) (by omega) (q + 1) g2 rfl (by omega) (fun j hj hj2 => ?_)
    rw [hg2 j hj]
    by_cases c : sgZ (q + 1) j = true
    · rw [if_pos c]
      rcases sgZ_st.mp c with d | d
      · split
        · rfl
        · rw [hg j hj hj2, if_pos d]
      · rw [if_pos (by omega)]; rfl
    · rw [if_neg c]
      have c1 : ¬ sgZ q j = true := fun d => c (sgZ_st.mpr (Or.inl d))
      have c2 : ¬ (2 + 73 * q + 9 ≤ j ∧ j < 2 + 73 * q + 9 + 64) := fun d => c (sgZ_st.mpr (Or.inr d))
      rw [if_neg (by omega), hg j hj hj2, if_neg c1]
set_option maxHeartbeats 4000000 in
set_option maxRecDepth 100000 in
theorem c_rd_2 {κ : hz_C} {z : Nat} {M : hz_M} (hO9 : M 9 = .inr (8, [.ref 10, .ref 11, .ref 12])) (hO13 : M 13 = .inr (4, [.ref 9, .ref 14, .ref 15, .ref 16, .ref 17, .ref 18, .ref 19])) (hz : 63 ≤ z) {q0 v : Nat → Int32} (h15 : M 15 = .inl (0, 8, .inl q0)) (h10 : M 10 = .inl (0, 8, .inl v)) {h0 : Int32} (hv : v 0 = h0) {P : hz_P} (K : ∀ q : Nat → Int32, (∀ j, j < 8 → q j = nI (dgA h0 j)) → P none z (va_up M 15 (.inl (0, 8, .inl q)))) : ∀ k i q, k = 6 - i → i ≤ 6 → (∀ j, j < i → q j = nI (dgD h0 j)) → hz_W κ xX4_readDigits 2 0 0 P 0 0 115 [(6, .int (nI i)), (5, .int (nI (dgC h0 i))), (0, .ref 13)] [] z (va_up M 15 (.inl (0, 8, .inl q))) := by
  intro k
  induction k using Nat.strongRecOn with
  | ind k ih =>
  intro i q hk hi hs
  have hC := dgC_le h0 i
  refine hz_iload (pc := 115) 0 (hz_dec kX4_readDigits 65 rfl) rfl ?_
  refine hz_bipush (pc := 117) (v := nI 6) (hz_dec kX4_readDigits 66 rfl) (by decide) ?_
  refine hz_n_ge (pc := 119) (tgt := 170) (hz_dec kX4_readDigits 67 rfl) (by decide) (by omega) (by omega) (fun h1 => ?_) (fun h1 => ?_)
  · skip
    have e : i = 6 := by omega
    subst e
    refine hz_aloadn (pc := 170) 2 (hz_dec kX4_readDigits 96 rfl) rfl ?_
    refine hz_get (pc := 171) (hz_dec kX4_readDigits 97 rfl) fo_X4_15 (hz_mne hO13 (by decide)) (by decide) (by omega) rfl ?_
    refine hz_bipush (pc := 174) (v := nI 6) (hz_dec kX4_readDigits 98 rfl) (by decide) ?_
    refine hz_iload (pc := 176) 1 (hz_dec kX4_readDigits 99 rfl) rfl ?_
    refine hz_bipush (pc := 178) (v := nI 16) (hz_dec kX4_readDigits 100 rfl) (by decide) ?_
    refine hz_divN (pc := 180) (hz_dec kX4_readDigits 101 rfl) (by omega) (by decide) (by decide) ?_
    refine hz_iast (pc := 181) (j := 6) (hz_dec kX4_readDigits 102 rfl) (va_up_self _ _ _) (by decide) (by omega) rfl (by omega) (by decide) ?_
    refine hz_mem (pc := 182) (M2 := (va_up M 15 (.inl (0, 8, .inl (upd q 6 ((nI ((dgC h0 6) / 16)))))))) (bx_uu _ _ _ _) ?_
    refine hz_aloadn (pc := 182) 2 (hz_dec kX4_readDigits 103 rfl) rfl ?_
    refine hz_get (pc := 183) (hz_dec kX4_readDigits 104 rfl) fo_X4_15 (hz_mne hO13 (by decide)) (by decide) (by omega) rfl ?_
    refine hz_bipush (pc := 186) (v := nI 7) (hz_dec kX4_readDigits 105 rfl) (by decide) ?_
    refine hz_iload (pc := 188) 1 (hz_dec kX4_readDigits 106 rfl) rfl ?_
    refine hz_bipush (pc := 190) (v := nI 16) (hz_dec kX4_readDigits 107 rfl) (by decide) ?_
    refine hz_remN (pc := 192) (hz_dec kX4_readDigits 108 rfl) (by omega) (by decide) (by decide) ?_
    refine hz_iast (pc := 193) (j := 7) (hz_dec kX4_readDigits 109 rfl) (va_up_self _ _ _) (by decide) (by omega) rfl (by omega) (by decide) ?_
    refine hz_mem (pc := 194) (M2 := (va_up M 15 (.inl (0, 8, .inl (upd (upd q 6 ((nI ((dgC h0 6) / 16)))) 7 ((nI ((dgC h0 6) % 16)))))))) (bx_uu _ _ _ _) ?_
    refine hz_vret (pc := 194) (hz_dec kX4_readDigits 110 rfl) rfl (K _ (fun j hj => ?_))
    simp only [upd, dgA]
    rcases (show j < 6 ∨ j = 6 ∨ j = 7 by omega) with r | rfl | rfl
    · rw [if_neg (by omega), if_neg (by omega), if_pos r]; exact hs j r
    · rfl
    · rfl
  · skip
    have hD := dgD_lt h0 i
    refine hz_aloadn (pc := 122) 2 (hz_dec kX4_readDigits 68 rfl) rfl ?_
    refine hz_get (pc := 123) (hz_dec kX4_readDigits 69 rfl) fo_X4_15 (hz_mne hO13 (by decide)) (by decide) (by omega) rfl ?_
    refine hz_iload (pc := 126) 0 (hz_dec kX4_readDigits 70 rfl) rfl ?_
    refine hz_aloadn (pc := 128) 2 (hz_dec kX4_readDigits 71 rfl) rfl ?_
    refine hz_get (pc := 129) (hz_dec kX4_readDigits 72 rfl) fo_X4_32 (hz_mne hO13 (by decide)) (by decide) (by omega) rfl ?_
    refine hz_get (pc := 132) (hz_dec kX4_readDigits 73 rfl) fo_X4_98 (hz_mne hO9 (by decide)) (by decide) (by omega) rfl ?_
    refine hz_iconst (pc := 135) (v := nI 0) (hz_dec kX4_readDigits 74 rfl) (by decide) ?_
    refine hz_iald (pc := 136) (j := 0) (hz_dec kX4_readDigits 75 rfl) (hz_mne h10 (by decide)) (by decide) (by omega) rfl (by omega) (by decide) ?_
    refine hz_bipush (pc := 137) (v := nI 28) (hz_dec kX4_readDigits 76 rfl) (by decide) ?_
    refine hz_iconst (pc := 139) (v := nI 4) (hz_dec kX4_readDigits 77 rfl) (by decide) ?_
    refine hz_iload (pc := 140) 0 (hz_dec kX4_readDigits 78 rfl) rfl ?_
    refine hz_mulN (pc := 142) (hz_dec kX4_readDigits 79 rfl) ?_
    refine hz_subN (pc := 143) (hz_dec kX4_readDigits 80 rfl) (by omega) ?_
    refine hz_iushr (pc := 144) (hz_dec kX4_readDigits 81 rfl) ?_
    refine hz_eqi (pc := 145) (ushr_nI _ (by omega)) ?_
    refine hz_bipush (pc := 145) (v := nI 15) (hz_dec kX4_readDigits 82 rfl) (by decide) ?_
    refine hz_iand (pc := 147) (hz_dec kX4_readDigits 83 rfl) ?_
    refine hz_eqi (pc := 148) (w := nI (dgD h0 i)) (by rw [and15, un_nI (Nat.lt_of_le_of_lt (Nat.div_le_self _ _) (un_lt _)), hv]; rfl) ?_
    refine hz_iast (pc := 148) (j := i) (hz_dec kX4_readDigits 84 rfl) (va_up_self _ _ _) (by decide) (by omega) rfl (by omega) (by decide) ?_
    refine hz_mem (pc := 149) (M2 := (va_up M 15 (.inl (0, 8, .inl (upd q i ((nI (dgD h0 i)))))))) (bx_uu _ _ _ _) ?_
    refine hz_iload (pc := 149) 1 (hz_dec kX4_readDigits 85 rfl) rfl ?_
    refine hz_bipush (pc := 151) (v := nI 15) (hz_dec kX4_readDigits 86 rfl) (by decide) ?_
    refine hz_aloadn (pc := 153) 2 (hz_dec kX4_readDigits 87 rfl) rfl ?_
    refine hz_get (pc := 154) (hz_dec kX4_readDigits 88 rfl) fo_X4_15 (hz_mne hO13 (by decide)) (by decide) (by omega) rfl ?_
    refine hz_iload (pc := 157) 0 (hz_dec kX4_readDigits 89 rfl) rfl ?_
    refine hz_iald (pc := 159) (j := i) (hz_dec kX4_readDigits 90 rfl) (va_up_self _ _ _) (by decide) (by omega) rfl (by omega) (by decide) ?_
    refine hz_eqi (pc := 160) (w := nI (dgD h0 i)) (by simp [upd]) ?_
    refine hz_subN (pc := 160) (hz_dec kX4_readDigits 91 rfl) (by omega) ?_
    refine hz_addN (pc := 161) (hz_dec kX4_readDigits 92 rfl) ?_
    refine hz_istore (pc := 162) (i := 5) (lo2 := [(5, .int (nI ((dgC h0 i) + (15 - (dgD h0 i))))), (6, .int (nI i)), (0, .ref 13)]) (hz_dec kX4_readDigits 93 rfl) (by decide) rfl ?_
    refine hz_incN (pc := 164) (i := 6) (lo2 := [(6, .int (nI (i + 1))), (5, .int (nI ((dgC h0 i) + (15 - (dgD h0 i))))), (0, .ref 13)]) 1 (hz_dec kX4_readDigits 94 rfl) rfl (by decide) rfl ?_
    refine hz_goto (pc := 167) (tgt := 115) (hz_dec kX4_readDigits 95 rfl) (by decide) ?_
    refine hz_pick (pc := 115) [0, 1, 2] rfl ?_
    refine ih (6 - (i + 1)) (by omega) (i + 1) _ rfl (by omega) (fun j hj => ?_)
    simp only [upd]
    split
    · next e => rw [e]
    · exact hs j (by omega)
