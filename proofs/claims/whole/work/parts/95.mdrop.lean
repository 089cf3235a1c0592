/-! the reference: dropMessage -/
theorem msO_er {q : List ms_M} {k j : Nat} : msO (q.eraseIdx k) j = if j ≤ k then msO q j else msO q (j + 1) - (msL q k).2.2.2.2.length := by
  unfold msO
  rw [msB_er, offL_er, rowL_ms]
theorem msO_st (q : List ms_M) (k : Nat) : msO q (k + 1) = msO q k + (msL q k).2.2.2.2.length := by
  unfold msO
  simp only [offL]
  rw [rowL_ms]
theorem msO_mo {q : List ms_M} {j k : Nat} (h : j ≤ k) : msO q j ≤ msO q k := offL_mono _ _ _ h
set_option maxHeartbeats 4000000 in
set_option maxRecDepth 100000 in
theorem c_md_b {κ : hz_C} {z : Nat} {M : hz_M} {B : Nat} {fs : List Value} (hO : M B = .inr (12, fs)) (hF : md_F B fs) (h8 : 8 ≤ B) (hz : B + 88 ≤ z) {g0 : Nat → Int32} (h76 : M (B + 76) = .inl (1, 40000, .inl g0)) {q : List ms_M} {k0 mb : Nat} (h87 : fs[87]? = some (.int (nI mb))) (hmb : mb + (msL q k0).2.2.2.2.length ≤ 40000) (hfm : msO q k0 ≤ mb) (hby : ∀ j, j < 40000 → (g0 j).toInt8.toInt32 = g0 j) {P : hz_P} (K : ∀ g : Nat → Int32, (∀ x, x < mb → g x = if x < msO q k0 then g0 x else g0 (x + (msL q k0).2.2.2.2.length)) → hz_W κ xX12_dropMessage 0 0 0 P 0 0 58 [(2, .int (nI ((msL q k0).2.2.2.2.length))), (0, .ref B), (1, .int (nI k0))] [] z (va_up M (B + 76) (.inl (1, 40000, .inl g)))) : ∀ k i g, k = mb - i → msO q k0 ≤ i → i ≤ mb → (∀ x, x < i → g x = if x < msO q k0 then g0 x else g0 (x + (msL q k0).2.2.2.2.length)) → (∀ x, i ≤ x → g x = g0 x) → hz_W κ xX12_dropMessage 0 0 0 P 0 0 27 [(4, .int (nI i)), (3, .int (nI (msO q k0))), (2, .int (nI ((msL q k0).2.2.2.2.length))), (0, .ref B), (1, .int (nI k0))] [] z (va_up M (B + 76) (.inl (1, 40000, .inl g))) := by
  intro k
  induction k using Nat.strongRecOn with
  | ind k ih =>
  intro i g hk hi0 hi h1 h2
  refine hz_iload (pc := 27) 0 (hz_dec kX12_dropMessage 18 rfl) rfl ?_
  refine hz_aloadn (pc := 29) 3 (hz_dec kX12_dropMessage 19 rfl) rfl ?_
  refine hz_get (pc := 30) (v := .int (nI mb)) (hz_dec kX12_dropMessage 20 rfl) fo_X12_613 (hz_mne hO (by omega)) h8 (by omega) h87 ?_
  refine hz_n_ge (pc := 33) (tgt := 58) (hz_dec kX12_dropMessage 21 rfl) (by decide) (by omega) (by omega) (fun h9 => ?_) (fun h9 => ?_)
  · skip
    have e : i = mb := by omega
    refine hz_pick (pc := 58) [2, 3, 4] rfl ?_
    exact K g (fun x hx => h1 x (by omega))
  · skip
    refine hz_aloadn (pc := 36) 3 (hz_dec kX12_dropMessage 22 rfl) rfl ?_
    refine hz_get (pc := 37) (v := .ref (B + 76)) (hz_dec kX12_dropMessage 23 rfl) fo_X12_249 (hz_mne hO (by omega)) h8 (by omega) (hF.2 85 (by decide) (by decide)) ?_
    refine hz_iload (pc := 40) 0 (hz_dec kX12_dropMessage 24 rfl) rfl ?_
    refine hz_aloadn (pc := 42) 3 (hz_dec kX12_dropMessage 25 rfl) rfl ?_
    refine hz_get (pc := 43) (v := .ref (B + 76)) (hz_dec kX12_dropMessage 26 rfl) fo_X12_249 (hz_mne hO (by omega)) h8 (by omega) (hF.2 85 (by decide) (by decide)) ?_
    refine hz_iload (pc := 46) 0 (hz_dec kX12_dropMessage 27 rfl) rfl ?_
    refine hz_iloadn (pc := 48) 2 (hz_dec kX12_dropMessage 28 rfl) rfl ?_
    refine hz_addN (pc := 49) (hz_dec kX12_dropMessage 29 rfl) ?_
    refine hz_bald (pc := 50) (j := i + ((msL q k0).2.2.2.2.length)) (hz_dec kX12_dropMessage 30 rfl) (va_up_self _ _ _) (by omega) (by omega) rfl (by omega) (by decide) ?_
    refine hz_bast (pc := 51) (j := i) (hz_dec kX12_dropMessage 31 rfl) (va_up_self _ _ _) (by omega) (by omega) rfl (by omega) (by decide) ?_
    refine hz_mem (pc := 52) (M2 := (va_up M (B + 76) (.inl (1, 40000, .inl (upd g i ((g (i + ((msL q k0).2.2.2.2.length))).toInt8.toInt32)))))) (bx_uu _ _ _ _) ?_
    refine hz_incN (pc := 52) (i := 4) (lo2 := [(4, .int (nI (i + 1))), (3, .int (nI (msO q k0))), (2, .int (nI ((msL q k0).2.2.2.2.length))), (0, .ref B), (1, .int (nI k0))]) 0 (hz_dec kX12_dropMessage 32 rfl) rfl (by decide) rfl ?_
    refine hz_goto (pc := 55) (tgt := 27) (hz_dec kX12_dropMessage 33 rfl) (by decide) ?_
    refine hz_pick (pc := 27) [0, 1, 2, 3, 4] rfl ?_
    refine ih (mb - (i + 1)) (by omega) (i + 1) _ rfl (by omega) (by omega) (fun x hx => ?_) (fun x hx => ?_)
    · simp only [upd]
      split
      · next e => rw [e, if_neg (by omega), h2 _ (by omega), hby _ (by omega)]
      · exact h1 x (by omega)
    · simp only [upd]
      rw [if_neg (by omega)]
      exact h2 x (by omega)
set_option maxHeartbeats 4000000 in
set_option maxRecDepth 100000 in
theorem c_md_j {κ : hz_C} {z : Nat} {M0 : hz_M} {B len k0 : Nat} {q : List ms_M} (h8 : 8 ≤ B) (hz : B + 88 ≤ z) (hn : len + 1 ≤ 200) (hlen : q.length = len + 1) (hk0 : k0 ≤ len) (hmo : msO q q.length ≤ 40000) (h86 : fdB M0 B 86 = some (.int (nI len))) {f1 f2 f3 f4 f5 : Nat → Int32} {P : hz_P} (K : ∀ M (d1 : Nat → Int32) (d2 : Nat → Int32) (d3 : Nat → Int32) (d4 : Nat → Int32) (d5 : Nat → Int32) (d6 : Nat → Int32), mfr B [] [70, 71, 72, 73, 74, 75] M0 M → M (B + 70) = .inl (0, 200, .inl d1) → M (B + 71) = .inl (0, 200, .inl d2) → M (B + 72) = .inl (0, 200, .inl d3) → M (B + 73) = .inl (0, 200, .inl d4) → M (B + 74) = .inl (0, 200, .inl d5) → M (B + 75) = .inl (0, 200, .inl d6) → drI f1 d1 k0 len → drI f2 d2 k0 len → drI f3 d3 k0 len → drI f4 d4 k0 len → drI f5 d5 k0 len → (∀ j, j < len → j < len → d6 j = nI (msO (q.eraseIdx k0) j)) → (∀ j, len ≤ j → j < len + 1 → d6 j = nI (msO q j)) → P none z M) : ∀ k i M (d1 : Nat → Int32) (d2 : Nat → Int32) (d3 : Nat → Int32) (d4 : Nat → Int32) (d5 : Nat → Int32) (d6 : Nat → Int32), k = len - i → k0 ≤ i → i ≤ len → mfr B [] [70, 71, 72, 73, 74, 75] M0 M → M (B + 70) = .inl (0, 200, .inl d1) → M (B + 71) = .inl (0, 200, .inl d2) → M (B + 72) = .inl (0, 200, .inl d3) → M (B + 73) = .inl (0, 200, .inl d4) → M (B + 74) = .inl (0, 200, .inl d5) → M (B + 75) = .inl (0, 200, .inl d6) → drI f1 d1 k0 i → drI f2 d2 k0 i → drI f3 d3 k0 i → drI f4 d4 k0 i → drI f5 d5 k0 i → (∀ j, j < i → j < len → d6 j = nI (msO (q.eraseIdx k0) j)) → (∀ j, i ≤ j → j < len + 1 → d6 j = nI (msO q j)) → hz_W κ xX12_dropMessage 0 0 0 P 0 0 71 [(4, .int (nI i)), (2, .int (nI ((msL q k0).2.2.2.2.length))), (0, .ref B)] [] z M := by
  intro k
  induction k using Nat.strongRecOn with
  | ind k ih =>
  intro i M d1 d2 d3 d4 d5 d6 hk hi0 hi hfr g1 g2 g3 g4 g5 g6 e1 e2 e3 e4 e5 e6 e7
  obtain ⟨fs, hO, hF⟩ := id hfr.2.1
  have g86 : fs[86]? = some (.int (nI len)) := (fdB_of hO 86).symm.trans ((hfr.2.2 86 rfl).trans h86)
  refine hz_iload (pc := 71) 0 (hz_dec kX12_dropMessage 42 rfl) rfl ?_
  refine hz_aloadn (pc := 73) 2 (hz_dec kX12_dropMessage 43 rfl) rfl ?_
  refine hz_get (pc := 74) (v := .int (nI len)) (hz_dec kX12_dropMessage 44 rfl) fo_X12_610 hO h8 (by omega) g86 ?_
  refine hz_n_ge (pc := 77) (tgt := 184) (hz_dec kX12_dropMessage 45 rfl) (by decide) (by omega) (by omega) (fun h9 => ?_) (fun h9 => ?_)
  · skip
    have e : i = len := by omega
    subst e
    exact hz_vret (pc := 184) (hz_dec kX12_dropMessage 110 rfl) rfl (K M d1 d2 d3 d4 d5 d6 hfr g1 g2 g3 g4 g5 g6 e1 e2 e3 e4 e5 e6 e7)
  · skip
    have hm1 := msO_st q k0
    have hm2 := msO_mo (q := q) (show k0 + 1 ≤ i + 1 by omega)
    have hm3 := msO_mo (q := q) (show i + 1 ≤ q.length by omega)
    refine hz_aloadn (pc := 80) 2 (hz_dec kX12_dropMessage 46 rfl) rfl ?_
    refine hz_get (pc := 81) (v := .ref (B + 70)) (hz_dec kX12_dropMessage 47 rfl) fo_X12_230 hO h8 (by omega) (hF.2 79 (by decide) (by decide)) ?_
    refine hz_iload (pc := 84) 0 (hz_dec kX12_dropMessage 48 rfl) rfl ?_
    refine hz_aloadn (pc := 86) 2 (hz_dec kX12_dropMessage 49 rfl) rfl ?_
    refine hz_get (pc := 87) (v := .ref (B + 70)) (hz_dec kX12_dropMessage 50 rfl) fo_X12_230 hO h8 (by omega) (hF.2 79 (by decide) (by decide)) ?_
    refine hz_iload (pc := 90) 0 (hz_dec kX12_dropMessage 51 rfl) rfl ?_
    refine hz_iconst (pc := 92) (v := nI 1) (hz_dec kX12_dropMessage 52 rfl) (by decide) ?_
    refine hz_addN (pc := 93) (hz_dec kX12_dropMessage 53 rfl) ?_
    refine hz_iald (pc := 94) (j := i + 1) (hz_dec kX12_dropMessage 54 rfl) g1 (by omega) (by omega) rfl (by omega) (by decide) ?_
    refine hz_iast (pc := 95) (j := i) (hz_dec kX12_dropMessage 55 rfl) g1 (by omega) (by omega) rfl (by omega) (by decide) ?_
    refine hz_aloadn (pc := 96) 2 (hz_dec kX12_dropMessage 56 rfl) rfl ?_
    refine hz_get (pc := 97) (v := .ref (B + 71)) (hz_dec kX12_dropMessage 57 rfl) fo_X12_233 (hz_mne hO (by omega)) h8 (by omega) (hF.2 80 (by decide) (by decide)) ?_
    refine hz_iload (pc := 100) 0 (hz_dec kX12_dropMessage 58 rfl) rfl ?_
    refine hz_aloadn (pc := 102) 2 (hz_dec kX12_dropMessage 59 rfl) rfl ?_
    refine hz_get (pc := 103) (v := .ref (B + 71)) (hz_dec kX12_dropMessage 60 rfl) fo_X12_233 (hz_mne hO (by omega)) h8 (by omega) (hF.2 80 (by decide) (by decide)) ?_
    refine hz_iload (pc := 106) 0 (hz_dec kX12_dropMessage 61 rfl) rfl ?_
    refine hz_iconst (pc := 108) (v := nI 1) (hz_dec kX12_dropMessage 62 rfl) (by decide) ?_
    refine hz_addN (pc := 109) (hz_dec kX12_dropMessage 63 rfl) ?_
    refine hz_iald (pc := 110) (j := i + 1) (hz_dec kX12_dropMessage 64 rfl) (hz_mne g2 (by omega)) (by omega) (by omega) rfl (by omega) (by decide) ?_
    refine hz_iast (pc := 111) (j := i) (hz_dec kX12_dropMessage 65 rfl) (hz_mne g2 (by omega)) (by omega) (by omega) rfl (by omega) (by decide) ?_
    refine hz_aloadn (pc := 112) 2 (hz_dec kX12_dropMessage 66 rfl) rfl ?_
    refine hz_get (pc := 113) (v := .ref (B + 72)) (hz_dec kX12_dropMessage 67 rfl) fo_X12_236 (hz_mne (hz_mne hO (by omega)) (by omega)) h8 (by omega) (hF.2 81 (by decide) (by decide)) ?_
    refine hz_iload (pc := 116) 0 (hz_dec kX12_dropMessage 68 rfl) rfl ?_
    refine hz_aloadn (pc := 118) 2 (hz_dec kX12_dropMessage 69 rfl) rfl ?_
    refine hz_get (pc := 119) (v := .ref (B + 72)) (hz_dec kX12_dropMessage 70 rfl) fo_X12_236 (hz_mne (hz_mne hO (by omega)) (by omega)) h8 (by omega) (hF.2 81 (by decide) (by decide)) ?_
    refine hz_iload (pc := 122) 0 (hz_dec kX12_dropMessage 71 rfl) rfl ?_
    refine hz_iconst (pc := 124) (v := nI 1) (hz_dec kX12_dropMessage 72 rfl) (by decide) ?_
    refine hz_addN (pc := 125) (hz_dec kX12_dropMessage 73 rfl) ?_
    refine hz_iald (pc := 126) (j := i + 1) (hz_dec kX12_dropMessage 74 rfl) (hz_mne (hz_mne g3 (by omega)) (by omega)) (by omega) (by omega) rfl (by omega) (by decide) ?_
    refine hz_iast (pc := 127) (j := i) (hz_dec kX12_dropMessage 75 rfl) (hz_mne (hz_mne g3 (by omega)) (by omega)) (by omega) (by omega) rfl (by omega) (by decide) ?_
    refine hz_aloadn (pc := 128) 2 (hz_dec kX12_dropMessage 76 rfl) rfl ?_
    refine hz_get (pc := 129) (v := .ref (B + 73)) (hz_dec kX12_dropMessage 77 rfl) fo_X12_239 (hz_mne (hz_mne (hz_mne hO (by omega)) (by omega)) (by omega)) h8 (by omega) (hF.2 82 (by decide) (by decide)) ?_
    refine hz_iload (pc := 132) 0 (hz_dec kX12_dropMessage 78 rfl) rfl ?_
    refine hz_aloadn (pc := 134) 2 (hz_dec kX12_dropMessage 79 rfl) rfl ?_
    refine hz_get (pc := 135) (v := .ref (B + 73)) (hz_dec kX12_dropMessage 80 rfl) fo_X12_239 (hz_mne (hz_mne (hz_mne hO (by omega)) (by omega)) (by omega)) h8 (by omega) (hF.2 82 (by decide) (by decide)) ?_
    refine hz_iload (pc := 138) 0 (hz_dec kX12_dropMessage 81 rfl) rfl ?_
    refine hz_iconst (pc := 140) (v := nI 1) (hz_dec kX12_dropMessage 82 rfl) (by decide) ?_
    refine hz_addN (pc := 141) (hz_dec kX12_dropMessage 83 rfl) ?_
    refine hz_iald (pc := 142) (j := i + 1) (hz_dec kX12_dropMessage 84 rfl) (hz_mne (hz_mne (hz_mne g4 (by omega)) (by omega)) (by omega)) (by omega) (by omega) rfl (by omega) (by decide) ?_
    refine hz_iast (pc := 143) (j := i) (hz_dec kX12_dropMessage 85 rfl) (hz_mne (hz_mne (hz_mne g4 (by omega)) (by omega)) (by omega)) (by omega) (by omega) rfl (by omega) (by decide) ?_
    refine hz_aloadn (pc := 144) 2 (hz_dec kX12_dropMessage 86 rfl) rfl ?_
    refine hz_get (pc := 145) (v := .ref (B + 74)) (hz_dec kX12_dropMessage 87 rfl) fo_X12_242 (hz_mne (hz_mne (hz_mne (hz_mne hO (by omega)) (by omega)) (by omega)) (by omega)) h8 (by omega) (hF.2 83 (by decide) (by decide)) ?_
    refine hz_iload (pc := 148) 0 (hz_dec kX12_dropMessage 88 rfl) rfl ?_
    refine hz_aloadn (pc := 150) 2 (hz_dec kX12_dropMessage 89 rfl) rfl ?_
    refine hz_get (pc := 151) (v := .ref (B + 74)) (hz_dec kX12_dropMessage 90 rfl) fo_X12_242 (hz_mne (hz_mne (hz_mne (hz_mne hO (by omega)) (by omega)) (by omega)) (by omega)) h8 (by omega) (hF.2 83 (by decide) (by decide)) ?_
    refine hz_iload (pc := 154) 0 (hz_dec kX12_dropMessage 91 rfl) rfl ?_
    refine hz_iconst (pc := 156) (v := nI 1) (hz_dec kX12_dropMessage 92 rfl) (by decide) ?_
    refine hz_addN (pc := 157) (hz_dec kX12_dropMessage 93 rfl) ?_
    refine hz_iald (pc := 158) (j := i + 1) (hz_dec kX12_dropMessage 94 rfl) (hz_mne (hz_mne (hz_mne (hz_mne g5 (by omega)) (by omega)) (by omega)) (by omega)) (by omega) (by omega) rfl (by omega) (by decide) ?_
    refine hz_iast (pc := 159) (j := i) (hz_dec kX12_dropMessage 95 rfl) (hz_mne (hz_mne (hz_mne (hz_mne g5 (by omega)) (by omega)) (by omega)) (by omega)) (by omega) (by omega) rfl (by omega) (by decide) ?_
    refine hz_aloadn (pc := 160) 2 (hz_dec kX12_dropMessage 96 rfl) rfl ?_
    refine hz_get (pc := 161) (v := .ref (B + 75)) (hz_dec kX12_dropMessage 97 rfl) fo_X12_245 (hz_mne (hz_mne (hz_mne (hz_mne (hz_mne hO (by omega)) (by omega)) (by omega)) (by omega)) (by omega)) h8 (by omega) (hF.2 84 (by decide) (by decide)) ?_
    refine hz_iload (pc := 164) 0 (hz_dec kX12_dropMessage 98 rfl) rfl ?_
    refine hz_aloadn (pc := 166) 2 (hz_dec kX12_dropMessage 99 rfl) rfl ?_
    refine hz_get (pc := 167) (v := .ref (B + 75)) (hz_dec kX12_dropMessage 100 rfl) fo_X12_245 (hz_mne (hz_mne (hz_mne (hz_mne (hz_mne hO (by omega)) (by omega)) (by omega)) (by omega)) (by omega)) h8 (by omega) (hF.2 84 (by decide) (by decide)) ?_
    refine hz_iload (pc := 170) 0 (hz_dec kX12_dropMessage 101 rfl) rfl ?_
    refine hz_iconst (pc := 172) (v := nI 1) (hz_dec kX12_dropMessage 102 rfl) (by decide) ?_
    refine hz_addN (pc := 173) (hz_dec kX12_dropMessage 103 rfl) ?_
    refine hz_iald (pc := 174) (j := i + 1) (hz_dec kX12_dropMessage 104 rfl) (hz_mne (hz_mne (hz_mne (hz_mne (hz_mne g6 (by omega)) (by omega)) (by omega)) (by omega)) (by omega)) (by omega) (by omega) rfl (by omega) (by decide) ?_
    refine hz_eqi (pc := 175) (e7 (i + 1) (by omega) (by omega)) ?_
    refine hz_iloadn (pc := 175) 1 (hz_dec kX12_dropMessage 105 rfl) rfl ?_
    refine hz_subN (pc := 176) (hz_dec kX12_dropMessage 106 rfl) (by omega) ?_
    refine hz_iast (pc := 177) (j := i) (hz_dec kX12_dropMessage 107 rfl) (hz_mne (hz_mne (hz_mne (hz_mne (hz_mne g6 (by omega)) (by omega)) (by omega)) (by omega)) (by omega)) (by omega) (by omega) rfl (by omega) (by decide) ?_
    refine hz_incN (pc := 178) (i := 4) (lo2 := [(4, .int (nI (i + 1))), (2, .int (nI ((msL q k0).2.2.2.2.length))), (0, .ref B)]) 0 (hz_dec kX12_dropMessage 108 rfl) rfl (by decide) rfl ?_
    refine hz_goto (pc := 181) (tgt := 71) (hz_dec kX12_dropMessage 109 rfl) (by decide) ?_
    refine hz_pick (pc := 71) [0, 1, 2] rfl ?_
    refine ih (len - (i + 1)) (by omega) (i + 1) _ _ _ _ _ _ _ rfl (by omega) (by omega) ((((((hfr.upA (o := 70) rfl (by decide)).upA (o := 71) rfl (by decide)).upA (o := 72) rfl (by decide)).upA (o := 73) rfl (by decide)).upA (o := 74) rfl (by decide)).upA (o := 75) rfl (by decide)) (hz_mne (hz_mne (hz_mne (hz_mne (hz_mne (va_up_self _ _ _) (by omega)) (by omega)) (by omega)) (by omega)) (by omega)) (hz_mne (hz_mne (hz_mne (hz_mne (va_up_self _ _ _) (by omega)) (by omega)) (by omega)) (by omega)) (hz_mne (hz_mne (hz_mne (va_up_self _ _ _) (by omega)) (by omega)) (by omega)) (hz_mne (hz_mne (va_up_self _ _ _) (by omega)) (by omega)) (hz_mne (va_up_self _ _ _) (by omega)) (va_up_self _ _ _) (e1.st hi0) (e2.st hi0) (e3.st hi0) (e4.st hi0) (e5.st hi0) (fun j hj hj2 => ?_) (fun j hj hj2 => ?_)
    · simp only [upd]
      split
      · next e =>
        subst e
        rw [msO_er]
        split
        · next c =>
          have ej : j = k0 := by omega
          subst ej
          rw [hm1]
          congr 1
          omega
        · rfl
      · exact e6 j (by omega) hj2
    · simp only [upd]
      rw [if_neg (by omega)]
      exact e7 j (by omega) hj2
set_option maxHeartbeats 4000000 in
set_option maxRecDepth 100000 in
theorem c_mdrop {κ : hz_C} {z : Nat} {M : hz_M} {B : Nat} (hO_ : md_O M B) (hE : mdE M B) (h8 : 8 ≤ B) (hz : B + 88 ≤ z) {q : List ms_M} {now gone : Int32} (hQ : mqR M B q now gone) {k0 : Nat} (hk0 : k0 < q.length) : hz_Mt κ xX12_dropMessage 0 0 0 [.ref B, .int (nI k0)] z M (fun rr z2 M2 => none = rr ∧ z = z2 ∧ mfr B [86, 87] [70, 71, 72, 73, 74, 75, 76] M M2 ∧ mdE M2 B ∧ mqR M2 B (q.eraseIdx k0) now gone) := by
  refine hz_ent (lo := [(0, .ref B), (1, .int (nI k0))]) (by decide) (Nat.le_of_ble_eq_true rfl) rfl ?_
  obtain ⟨fs, hO, hF⟩ := id hO_
  obtain ⟨⟨hX, hX2⟩, hq2, hq4, k86, k87, k88, k89⟩ := id hQ
  have g86 : fs[86]? = some (.int (nI q.length)) := (fdB_of hO 86).symm.trans k86
  have g87 : fs[87]? = some (.int (nI (msO q q.length))) := (fdB_of hO 87).symm.trans k87
  have hm1 := msO_st q k0
  have hm3 := msO_mo (q := q) (show k0 + 1 ≤ q.length by omega)
  have hxk := hX2 k0 hk0
  refine hz_bytes hE.a76 (by omega) (by omega) (fun hby => ?_)
  refine hz_aloadn (pc := 0) 0 (hz_dec kX12_dropMessage 0 rfl) rfl ?_
  refine hz_get (pc := 1) (v := .ref (B + 74)) (hz_dec kX12_dropMessage 1 rfl) fo_X12_242 hO h8 (by omega) (hF.2 83 (by decide) (by decide)) ?_
  refine hz_iloadn (pc := 4) 1 (hz_dec kX12_dropMessage 2 rfl) rfl ?_
  refine hz_iald (pc := 5) (j := k0) (hz_dec kX12_dropMessage 3 rfl) hE.a74 (by omega) (by omega) rfl (by omega) (by decide) ?_
  refine hz_eqi (pc := 6) hxk.1 ?_
  refine hz_istoren (pc := 6) (i := 2) (lo2 := [(2, .int (nI ((msL q k0).2.2.2.2.length))), (0, .ref B), (1, .int (nI k0))]) (hz_dec kX12_dropMessage 4 rfl) rfl (by decide) rfl ?_
  refine hz_aloadn (pc := 7) 1 (hz_dec kX12_dropMessage 5 rfl) rfl ?_
  refine hz_get (pc := 8) (v := .ref (B + 75)) (hz_dec kX12_dropMessage 6 rfl) fo_X12_245 hO h8 (by omega) (hF.2 84 (by decide) (by decide)) ?_
  refine hz_iloadn (pc := 11) 2 (hz_dec kX12_dropMessage 7 rfl) rfl ?_
  refine hz_iald (pc := 12) (j := k0) (hz_dec kX12_dropMessage 8 rfl) hE.a75 (by omega) (by omega) rfl (by omega) (by decide) ?_
  refine hz_eqi (pc := 13) hxk.2.1 ?_
  refine hz_istoren (pc := 13) (i := 3) (lo2 := [(3, .int (nI (msO q k0))), (2, .int (nI ((msL q k0).2.2.2.2.length))), (0, .ref B), (1, .int (nI k0))]) (hz_dec kX12_dropMessage 9 rfl) rfl (by decide) rfl ?_
  refine hz_aloadn (pc := 14) 2 (hz_dec kX12_dropMessage 10 rfl) rfl ?_
  refine hz_dup (pc := 15) (hz_dec kX12_dropMessage 11 rfl) rfl ?_
  refine hz_get (pc := 16) (v := .int (nI (msO q q.length))) (hz_dec kX12_dropMessage 12 rfl) fo_X12_613 hO h8 (by omega) g87 ?_
  refine hz_iloadn (pc := 19) 1 (hz_dec kX12_dropMessage 13 rfl) rfl ?_
  refine hz_subN (pc := 20) (hz_dec kX12_dropMessage 14 rfl) (by omega) ?_
  refine hz_puti (pc := 21) (hz_dec kX12_dropMessage 15 rfl) fo_X12_613 ft_X12_87 hO h8 (by omega) (by rw [hF.1]; decide) ?_
  refine hz_iloadn (pc := 24) 0 (hz_dec kX12_dropMessage 16 rfl) rfl ?_
  refine hz_istore (pc := 25) (i := 4) (lo2 := [(4, .int (nI (msO q k0))), (3, .int (nI (msO q k0))), (2, .int (nI ((msL q k0).2.2.2.2.length))), (0, .ref B), (1, .int (nI k0))]) (hz_dec kX12_dropMessage 17 rfl) (by decide) rfl ?_
  refine hz_pick (pc := 27) [0, 1, 2, 3, 4] rfl ?_
  have hf1 : mfr B [87] [] M (va_up M B (.inr (12, (List.set fs 87 (.int (nI ((msO q q.length) - ((msL q k0).2.2.2.2.length)))))))) := (mfr.rf ⟨fs, hO, hF⟩).upO (k := 87) hO hF rfl rfl
  have h761 : (va_up M B (.inr (12, (List.set fs 87 (.int (nI ((msO q q.length) - ((msL q k0).2.2.2.2.length)))))))) (B + 76) = .inl (1, 40000, .inl (fA M B 76)) := hz_mne hE.a76 (by omega)
  refine hz_mem (pc := 27) (hz_upid h761).symm ?_
  refine c_md_b (va_up_self _ _ _) (md_set hF rfl) h8 hz h761 (mb := msO q q.length - (msL q k0).2.2.2.2.length) (List.getElem?_set_self (by rw [hF.1]; decide)) (by omega) (by omega) hby (fun g hg => ?_) (msO q q.length - (msL q k0).2.2.2.2.length - msO q k0) (msO q k0) _ rfl (Nat.le_refl _) (by omega) (fun x hx => by rw [if_pos hx]) (fun x _ => rfl)
  refine hz_aloadn (pc := 58) 1 (hz_dec kX12_dropMessage 34 rfl) rfl ?_
  refine hz_dup (pc := 59) (hz_dec kX12_dropMessage 35 rfl) rfl ?_
  refine hz_get (pc := 60) (v := .int (nI (q.length))) (hz_dec kX12_dropMessage 36 rfl) fo_X12_610 (hz_mne (va_up_self _ _ _) (by omega)) h8 (by omega) ((List.getElem?_set_ne (by decide)).trans g86) ?_
  refine hz_iconst (pc := 63) (v := nI 1) (hz_dec kX12_dropMessage 37 rfl) (by decide) ?_
  refine hz_subN (pc := 64) (hz_dec kX12_dropMessage 38 rfl) (by omega) ?_
  refine hz_puti (pc := 65) (hz_dec kX12_dropMessage 39 rfl) fo_X12_610 ft_X12_86 (hz_mne (va_up_self _ _ _) (by omega)) h8 (by omega) (by rw [(md_set hF rfl).1]; decide) ?_
  refine hz_iloadn (pc := 68) 2 (hz_dec kX12_dropMessage 40 rfl) rfl ?_
  refine hz_istore (pc := 69) (i := 4) (lo2 := [(4, .int (nI k0)), (2, .int (nI ((msL q k0).2.2.2.2.length))), (0, .ref B), (1, .int (nI k0))]) (hz_dec kX12_dropMessage 41 rfl) (by decide) rfl ?_
  refine hz_pick (pc := 71) [0, 1, 2] rfl ?_
  have hf2 : mfr B [] [76] (va_up M B (.inr (12, (List.set fs 87 (.int (nI ((msO q q.length) - ((msL q k0).2.2.2.2.length)))))))) (va_up (va_up M B (.inr (12, (List.set fs 87 (.int (nI ((msO q q.length) - ((msL q k0).2.2.2.2.length)))))))) (B + 76) (.inl (1, 40000, .inl g))) := (mfr.rf hf1.2.1).upA (o := 76) rfl (by decide)
  have hf3 : mfr B [86] [] (va_up (va_up M B (.inr (12, (List.set fs 87 (.int (nI ((msO q q.length) - ((msL q k0).2.2.2.2.length)))))))) (B + 76) (.inl (1, 40000, .inl g))) (va_up (va_up (va_up M B (.inr (12, (List.set fs 87 (.int (nI ((msO q q.length) - ((msL q k0).2.2.2.2.length)))))))) (B + 76) (.inl (1, 40000, .inl (g)))) B (.inr (12, (List.set (fs.set 87 (.int (nI (msO q q.length - (msL q k0).2.2.2.2.length)))) 86 (.int (nI ((q.length) - 1))))))) := (mfr.rf hf2.2.1).upO (k := 86) (hz_mne (va_up_self _ _ _) (by omega)) (md_set hF rfl) rfl rfl
  have hff : mfr B [86, 87] [70, 71, 72, 73, 74, 75, 76] M (va_up (va_up (va_up M B (.inr (12, (List.set fs 87 (.int (nI ((msO q q.length) - ((msL q k0).2.2.2.2.length)))))))) (B + 76) (.inl (1, 40000, .inl (g)))) B (.inr (12, (List.set (fs.set 87 (.int (nI (msO q q.length - (msL q k0).2.2.2.2.length)))) 86 (.int (nI ((q.length) - 1))))))) := ((hf1.mono rfl rfl).tr (hf2.mono rfl rfl)).tr (hf3.mono rfl rfl)
  have hE2 : mdE (va_up (va_up (va_up M B (.inr (12, (List.set fs 87 (.int (nI ((msO q q.length) - ((msL q k0).2.2.2.2.length)))))))) (B + 76) (.inl (1, 40000, .inl (g)))) B (.inr (12, (List.set (fs.set 87 (.int (nI (msO q q.length - (msL q k0).2.2.2.2.length)))) 86 (.int (nI ((q.length) - 1))))))) B := ((mdE.upO hE).upA (by decide)).upO
  have h76e : (va_up (va_up (va_up M B (.inr (12, (List.set fs 87 (.int (nI ((msO q q.length) - ((msL q k0).2.2.2.2.length)))))))) (B + 76) (.inl (1, 40000, .inl (g)))) B (.inr (12, (List.set (fs.set 87 (.int (nI (msO q q.length - (msL q k0).2.2.2.2.length)))) 86 (.int (nI ((q.length) - 1))))))) (B + 76) = .inl (1, 40000, .inl g) := hz_mne (va_up_self _ _ _) (by omega)
  have k86e : fdB (va_up (va_up (va_up M B (.inr (12, (List.set fs 87 (.int (nI ((msO q q.length) - ((msL q k0).2.2.2.2.length)))))))) (B + 76) (.inl (1, 40000, .inl (g)))) B (.inr (12, (List.set (fs.set 87 (.int (nI (msO q q.length - (msL q k0).2.2.2.2.length)))) 86 (.int (nI ((q.length) - 1))))))) B 86 = some (.int (nI (q.length - 1))) := by rw [fdB_of (va_up_self _ _ _), List.getElem?_set_self (by rw [List.length_set, hF.1]; decide)]
  have k87e : fdB (va_up (va_up (va_up M B (.inr (12, (List.set fs 87 (.int (nI ((msO q q.length) - ((msL q k0).2.2.2.2.length)))))))) (B + 76) (.inl (1, 40000, .inl (g)))) B (.inr (12, (List.set (fs.set 87 (.int (nI (msO q q.length - (msL q k0).2.2.2.2.length)))) 86 (.int (nI ((q.length) - 1))))))) B 87 = some (.int (nI (msO q q.length - (msL q k0).2.2.2.2.length))) := (hf3.2.2 87 rfl).trans ((hf2.2.2 87 rfl).trans (by rw [fdB_of (va_up_self _ _ _), List.getElem?_set_self (by rw [hF.1]; decide)]))
  have k88e := (hf3.2.2 88 rfl).trans ((hf2.2.2 88 rfl).trans ((hf1.2.2 88 rfl).trans k88))
  have k89e := (hf3.2.2 89 rfl).trans ((hf2.2.2 89 rfl).trans ((hf1.2.2 89 rfl).trans k89))
  have p70 : (va_up (va_up (va_up M B (.inr (12, (List.set fs 87 (.int (nI ((msO q q.length) - ((msL q k0).2.2.2.2.length)))))))) (B + 76) (.inl (1, 40000, .inl (g)))) B (.inr (12, (List.set (fs.set 87 (.int (nI (msO q q.length - (msL q k0).2.2.2.2.length)))) 86 (.int (nI ((q.length) - 1))))))) (B + 70) = .inl (0, 200, .inl (fA M B 70)) := (hf3.at 70 (by decide) rfl).trans ((hf2.at 70 (by decide) rfl).trans ((hf1.at 70 (by decide) rfl).trans hE.a70))
  have p71 : (va_up (va_up (va_up M B (.inr (12, (List.set fs 87 (.int (nI ((msO q q.length) - ((msL q k0).2.2.2.2.length)))))))) (B + 76) (.inl (1, 40000, .inl (g)))) B (.inr (12, (List.set (fs.set 87 (.int (nI (msO q q.length - (msL q k0).2.2.2.2.length)))) 86 (.int (nI ((q.length) - 1))))))) (B + 71) = .inl (0, 200, .inl (fA M B 71)) := (hf3.at 71 (by decide) rfl).trans ((hf2.at 71 (by decide) rfl).trans ((hf1.at 71 (by decide) rfl).trans hE.a71))
  have p72 : (va_up (va_up (va_up M B (.inr (12, (List.set fs 87 (.int (nI ((msO q q.length) - ((msL q k0).2.2.2.2.length)))))))) (B + 76) (.inl (1, 40000, .inl (g)))) B (.inr (12, (List.set (fs.set 87 (.int (nI (msO q q.length - (msL q k0).2.2.2.2.length)))) 86 (.int (nI ((q.length) - 1))))))) (B + 72) = .inl (0, 200, .inl (fA M B 72)) := (hf3.at 72 (by decide) rfl).trans ((hf2.at 72 (by decide) rfl).trans ((hf1.at 72 (by decide) rfl).trans hE.a72))
  have p73 : (va_up (va_up (va_up M B (.inr (12, (List.set fs 87 (.int (nI ((msO q q.length) - ((msL q k0).2.2.2.2.length)))))))) (B + 76) (.inl (1, 40000, .inl (g)))) B (.inr (12, (List.set (fs.set 87 (.int (nI (msO q q.length - (msL q k0).2.2.2.2.length)))) 86 (.int (nI ((q.length) - 1))))))) (B + 73) = .inl (0, 200, .inl (fA M B 73)) := (hf3.at 73 (by decide) rfl).trans ((hf2.at 73 (by decide) rfl).trans ((hf1.at 73 (by decide) rfl).trans hE.a73))
  have p74 : (va_up (va_up (va_up M B (.inr (12, (List.set fs 87 (.int (nI ((msO q q.length) - ((msL q k0).2.2.2.2.length)))))))) (B + 76) (.inl (1, 40000, .inl (g)))) B (.inr (12, (List.set (fs.set 87 (.int (nI (msO q q.length - (msL q k0).2.2.2.2.length)))) 86 (.int (nI ((q.length) - 1))))))) (B + 74) = .inl (0, 200, .inl (fA M B 74)) := (hf3.at 74 (by decide) rfl).trans ((hf2.at 74 (by decide) rfl).trans ((hf1.at 74 (by decide) rfl).trans hE.a74))
  have p75 : (va_up (va_up (va_up M B (.inr (12, (List.set fs 87 (.int (nI ((msO q q.length) - ((msL q k0).2.2.2.2.length)))))))) (B + 76) (.inl (1, 40000, .inl (g)))) B (.inr (12, (List.set (fs.set 87 (.int (nI (msO q q.length - (msL q k0).2.2.2.2.length)))) 86 (.int (nI ((q.length) - 1))))))) (B + 75) = .inl (0, 200, .inl (fA M B 75)) := (hf3.at 75 (by decide) rfl).trans ((hf2.at 75 (by decide) rfl).trans ((hf1.at 75 (by decide) rfl).trans hE.a75))
  generalize hM9 : (va_up (va_up (va_up M B (.inr (12, (List.set fs 87 (.int (nI ((msO q q.length) - ((msL q k0).2.2.2.2.length)))))))) (B + 76) (.inl (1, 40000, .inl (g)))) B (.inr (12, (List.set (fs.set 87 (.int (nI (msO q q.length - (msL q k0).2.2.2.2.length)))) 86 (.int (nI ((q.length) - 1))))))) = M9 at *
  refine c_md_j (M0 := M9) (q := q) (len := q.length - 1) (k0 := k0) h8 hz (by omega) (by omega) (by omega) hq4 k86e (fun M8 d1 d2 d3 d4 d5 d6 hfr q1 q2 q3 q4 q5 q6 e1 e2 e3 e4 e5 e6 e7 => ?_) (q.length - 1 - k0) k0 M9 _ _ _ _ _ _ rfl (Nat.le_refl _) (by omega) (mfr.rf hff.2.1) p70 p71 p72 p73 p74 p75 drI.z drI.z drI.z drI.z drI.z (fun j hj hj2 => ?_) (fun j hj hj2 => (hX2 j (by omega)).2.1)
  · have hg8 : M8 (B + 76) = .inl (1, 40000, .inl g) := (hfr.at 76 (by decide) rfl).trans h76e
    refine ⟨rfl, rfl, hff.tr (hfr.mono rfl rfl), hE2.gen hfr (A := []) (E := [70, 71, 72, 73, 74, 75]) rfl sho_n (sho_c (shoA (by decide) q1) (sho_c (shoA (by decide) q2) (sho_c (shoA (by decide) q3) (sho_c (shoA (by decide) q4) (sho_c (shoA (by decide) q5) (sho_c (shoA (by decide) q6) sho_n)))))), ⟨?_, fun k hk => ?_⟩, by rw [ms_erl hk0]; omega, ?_, by rw [ms_erl hk0]; exact (hfr.2.2 86 rfl).trans k86e, ?_, (hfr.2.2 88 rfl).trans k88e, (hfr.2.2 89 rfl).trans k89e⟩
    · rw [fA_of q1, fA_of q2, fA_of q3, fA_of q4]
      refine msX_er hX hk0 (fun j hj => ?_) (fun j hj hj2 => ?_)
      · rw [e1.1 j (by omega), e2.1 j (by omega), e3.1 j (by omega), e4.1 j (by omega)]; simp only [if_pos hj]; exact ⟨trivial, trivial, trivial, trivial⟩
      · rw [e1.1 j hj2, e2.1 j hj2, e3.1 j hj2, e4.1 j hj2]; simp only [if_neg (show ¬ j < k0 by omega)]; exact ⟨trivial, trivial, trivial, trivial⟩
    · rw [ms_erl hk0] at hk
      rw [fA_of q5, fA_of q6, fA_of hg8, e5.1 k hk, e6 k hk hk, msL_er]
      by_cases c : k < k0
      · rw [if_pos c, if_pos c]
        obtain ⟨a1, a2, a3⟩ := hX2 k (by omega)
        refine ⟨a1, rfl, ?_⟩
        rw [msO_er, if_pos (by omega)]
        refine isA_c a3 (fun j hj => ?_)
        have m1 := msO_st q k
        have m2 := msO_mo (q := q) (show k + 1 ≤ k0 by omega)
        rw [hg _ (by omega), if_pos (by omega)]
      · rw [if_neg c, if_neg c]
        obtain ⟨a1, a2, a3⟩ := hX2 (k + 1) (by omega)
        refine ⟨a1, rfl, ?_⟩
        have m1 := msO_st q (k + 1)
        have m2 := msO_mo (q := q) (show k0 + 1 ≤ k + 1 by omega)
        have m3 := msO_mo (q := q) (show k + 1 + 1 ≤ q.length by omega)
        have e9 : msO (q.eraseIdx k0) k = msO q (k + 1) - (msL q k0).2.2.2.2.length := by
          rw [msO_er]
          by_cases c2 : k ≤ k0
          · rw [if_pos c2, show k = k0 by omega, hm1]; omega
          · rw [if_neg c2]
        rw [e9]
        refine isA_c a3 (fun j hj => ?_)
        rw [hg _ (by omega), if_neg (by omega), show msO q (k + 1) - (msL q k0).2.2.2.2.length + j + (msL q k0).2.2.2.2.length = msO q (k + 1) + j by omega]
    · have r := offL_ero (L := msB q) (k := k0) (by rw [msB_len]; exact hk0)
      rw [← msB_er, msB_len, msB_len] at r
      have r2 : msO (q.eraseIdx k0) (q.eraseIdx k0).length ≤ msO q q.length := by unfold msO; omega
      omega
    · rw [(hfr.2.2 87 rfl).trans k87e]
      have r := offL_ero (L := msB q) (k := k0) (by rw [msB_len]; exact hk0)
      rw [← msB_er, msB_len, msB_len, rowL_ms] at r
      have r2 : msO (q.eraseIdx k0) (q.eraseIdx k0).length + (msL q k0).2.2.2.2.length = msO q q.length := r
      rw [← r2, Nat.add_sub_cancel]
  · rw [msO_er, if_pos (by omega)]; exact (hX2 j (by omega)).2.1
