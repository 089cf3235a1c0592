/-! the reference: send, dropMessage -/
def mqX (fa : Nat → Nat → Int32) (q : List ms_M) : Prop := msX (fa 70) (fa 71) (fa 72) (fa 73) q ∧ ∀ k, k < q.length → fa 74 k = nI (msL q k).2.2.2.2.length ∧ fa 75 k = nI (msO q k) ∧ isA (fa 76) (msO q k) (msL q k).2.2.2.2
/-- the reference's queue -/
def mqR (M : hz_M) (B : Nat) (q : List ms_M) (now gone : Int32) : Prop := mqX (fA M B) q ∧ q.length ≤ 200 ∧ msO q q.length ≤ 40000 ∧ fdB M B 86 = some (.int (nI q.length)) ∧ fdB M B 87 = some (.int (nI (msO q q.length))) ∧ fdB M B 88 = some (.int gone) ∧ fdB M B 89 = some (.int now)
theorem mqX.mf {M M2 : hz_M} {B : Nat} {q : List ms_M} {ks os : List Nat} (h : mqX (fA M B) q) (f : mfr B ks os M M2) (ho : [70, 71, 72, 73, 74, 75, 76].all (fun o => !os.elem o) = true) : mqX (fA M2 B) q := by
  have qo : ∀ o ∈ [70, 71, 72, 73, 74, 75, 76], os.elem o = false := fun o hq => by simpa using List.all_eq_true.mp ho o hq
  unfold mqX
  rw [fA_m f (by decide) (qo 70 (by decide)), fA_m f (by decide) (qo 71 (by decide)), fA_m f (by decide) (qo 72 (by decide)), fA_m f (by decide) (qo 73 (by decide)), fA_m f (by decide) (qo 74 (by decide)), fA_m f (by decide) (qo 75 (by decide)), fA_m f (by decide) (qo 76 (by decide))]
  exact h
theorem mqR.mf {M M2 : hz_M} {B : Nat} {q : List ms_M} {now gone : Int32} {ks os : List Nat} (h : mqR M B q now gone) (f : mfr B ks os M M2) (hk : [86, 87, 88, 89].all (fun o => !ks.elem o) = true) (ho : [70, 71, 72, 73, 74, 75, 76].all (fun o => !os.elem o) = true) : mqR M2 B q now gone := by
  obtain ⟨h1, h2, h3, h4, h5, h6, h7⟩ := h
  have qk : ∀ o ∈ [86, 87, 88, 89], ks.elem o = false := fun o hq => by simpa using List.all_eq_true.mp hk o hq
  have qo : ∀ o ∈ [70, 71, 72, 73, 74, 75, 76], os.elem o = false := fun o hq => by simpa using List.all_eq_true.mp ho o hq
  refine ⟨?_, h2, h3, (f.2.2 86 (qk 86 (by decide))).trans h4, (f.2.2 87 (qk 87 (by decide))).trans h5, (f.2.2 88 (qk 88 (by decide))).trans h6, (f.2.2 89 (qk 89 (by decide))).trans h7⟩
  unfold mqX
  rw [fA_m f (by decide) (qo 70 (by decide)), fA_m f (by decide) (qo 71 (by decide)), fA_m f (by decide) (qo 72 (by decide)), fA_m f (by decide) (qo 73 (by decide)), fA_m f (by decide) (qo 74 (by decide)), fA_m f (by decide) (qo 75 (by decide)), fA_m f (by decide) (qo 76 (by decide))]
  exact h1
theorem msO_app {q : List ms_M} {t : ms_M} {k : Nat} (h : k ≤ q.length) : msO (q ++ [t]) k = msO q k := by unfold msO; rw [msB_app]; exact offL_app (by rw [msB_len]; exact h)
theorem msO_last {q : List ms_M} {t : ms_M} : msO (q ++ [t]) (q ++ [t]).length = msO q q.length + t.2.2.2.2.length := by
  rw [List.length_append]
  show offL (msB (q ++ [t])) (q.length + 1) = _
  simp only [offL]
  rw [rowL_ms, msL_last]
  show msO (q ++ [t]) q.length + _ = _
  rw [msO_app (Nat.le_refl _)]
def mdD (M : hz_M) (B : Nat) (dl : Nat → Nat) : Prop := ∀ k, k < 36 → fA M B 69 k = nI (dl k) ∧ dl k ≤ 9
set_option maxHeartbeats 4000000 in
set_option maxRecDepth 100000 in
theorem c_ms_c {κ : hz_C} {z : Nat} {M : hz_M} {B : Nat} {fs : List Value} (hO : M B = .inr (12, fs)) (hF : md_F B fs) (h8 : 8 ≤ B) (hz : B + 88 ≤ z) {g0 : Nat → Int32} (h76 : M (B + 76) = .inl (1, 40000, .inl g0)) {mb : Nat} (h87 : fs[87]? = some (.int (nI mb))) {r n at_ : Nat} {f : Nat → Int32} {t : by_L} (hB : M r = .inl (1, n, .inl f)) (hr8 : 8 ≤ r) (hrz : r < z) (hr76 : r ≠ B + 76) (hn : n < 2 ^ 24) (ht : isA f at_ t) (hat : at_ + t.length ≤ n) (hmb : mb + t.length ≤ 40000) (hby : ∀ j, j < n → (f j).toInt8.toInt32 = f j) {P : hz_P} (K : ∀ g : Nat → Int32, isA g mb t → (∀ x, x < mb → g x = g0 x) → hz_W κ xX12_send 0 0 0 P 0 0 170 [(6, .int (nI (t.length))), (0, .ref B)] [] z (va_up M (B + 76) (.inl (1, 40000, .inl g)))) : ∀ k i g, k = t.length - i → i ≤ t.length → (∀ j, j < i → g (mb + j) = lf t j) → (∀ x, x < mb → g x = g0 x) → hz_W κ xX12_send 0 0 0 P 0 0 137 [(8, .int (nI i)), (6, .int (nI (t.length))), (0, .ref B), (4, .ref r), (5, .int (nI at_))] [] z (va_up M (B + 76) (.inl (1, 40000, .inl g))) := by
  intro k
  induction k using Nat.strongRecOn with
  | ind k ih =>
  intro i g hk hi h1 h2
  refine hz_iload (pc := 137) 0 (hz_dec kX12_send 77 rfl) rfl ?_
  refine hz_iload (pc := 139) 1 (hz_dec kX12_send 78 rfl) rfl ?_
  refine hz_n_ge (pc := 141) (tgt := 170) (hz_dec kX12_send 79 rfl) (by decide) (by omega) (by omega) (fun h9 => ?_) (fun h9 => ?_)
  · skip
    have e : i = t.length := by omega
    refine hz_pick (pc := 170) [1, 2] rfl ?_
    exact K g (fun j hj => h1 j (by omega)) h2
  · skip
    refine hz_aloadn (pc := 144) 2 (hz_dec kX12_send 80 rfl) rfl ?_
    refine hz_get (pc := 145) (v := .ref (B + 76)) (hz_dec kX12_send 81 rfl) fo_X12_249 (hz_mne hO (by omega)) h8 (by omega) (hF.2 85 (by decide) (by decide)) ?_
    refine hz_aloadn (pc := 148) 2 (hz_dec kX12_send 82 rfl) rfl ?_
    refine hz_get (pc := 149) (v := .int (nI mb)) (hz_dec kX12_send 83 rfl) fo_X12_613 (hz_mne hO (by omega)) h8 (by omega) h87 ?_
    refine hz_iload (pc := 152) 0 (hz_dec kX12_send 84 rfl) rfl ?_
    refine hz_addN (pc := 154) (hz_dec kX12_send 85 rfl) ?_
    refine hz_aload (pc := 155) 3 (hz_dec kX12_send 86 rfl) rfl ?_
    refine hz_iload (pc := 157) 4 (hz_dec kX12_send 87 rfl) rfl ?_
    refine hz_iload (pc := 159) 0 (hz_dec kX12_send 88 rfl) rfl ?_
    refine hz_addN (pc := 161) (hz_dec kX12_send 89 rfl) ?_
    refine hz_bald (pc := 162) (j := at_ + i) (hz_dec kX12_send 90 rfl) (hz_mne hB hr76) hr8 hrz rfl (by omega) (by omega) ?_
    refine hz_bast (pc := 163) (j := mb + i) (hz_dec kX12_send 91 rfl) (va_up_self _ _ _) (by omega) (by omega) rfl (by omega) (by decide) ?_
    refine hz_mem (pc := 164) (M2 := (va_up M (B + 76) (.inl (1, 40000, .inl (upd g (mb + i) ((f (at_ + i)).toInt8.toInt32)))))) (bx_uu _ _ _ _) ?_
    refine hz_incN (pc := 164) (i := 8) (lo2 := [(8, .int (nI (i + 1))), (6, .int (nI (t.length))), (0, .ref B), (4, .ref r), (5, .int (nI at_))]) 0 (hz_dec kX12_send 92 rfl) rfl (by decide) rfl ?_
    refine hz_goto (pc := 167) (tgt := 137) (hz_dec kX12_send 93 rfl) (by decide) ?_
    refine hz_pick (pc := 137) [0, 1, 2, 3, 4] rfl ?_
    refine ih (t.length - (i + 1)) (by omega) (i + 1) _ rfl (by omega) (fun j hj => ?_) (fun x hx => ?_)
    · simp only [upd]
      split
      · next e => rw [show j = i by omega, hby _ (by omega)]; exact ht i h9
      · exact h1 j (by omega)
    · simp only [upd]
      rw [if_neg (by omega)]
      exact h2 x hx
set_option maxHeartbeats 4000000 in
set_option maxRecDepth 100000 in
theorem c_ms_2 {κ : hz_C} {z : Nat} {M : hz_M} {B : Nat} (hO_ : md_O M B) (hE : mdE M B) (h8 : 8 ≤ B) (hz : B + 88 ≤ z) {q : List ms_M} {now gone : Int32} (hQ : mqR M B q now gone) {dl : Nat → Nat} (hD : mdD M B dl) {r n at_ : Nat} {f : Nat → Int32} {t : by_L} (hB : M r = .inl (1, n, .inl f)) (hr8 : 8 ≤ r) (hrz : r < z) (hro : ∀ o ∈ (0 :: [70, 71, 72, 73, 74, 75, 76]), r ≠ B + o) (hn : n < 2 ^ 24) (ht : isA f at_ t) (hat : at_ + t.length ≤ n) (hl4 : t.length ≤ 4000) {v d : Nat} {to_ kd : Int32} (hv : v < 6) (hto : (∃ b, b < 6 ∧ to_ = nI b ∧ d = dl (6 * v + b)) ∨ (to_ < 0 ∧ d = 0)) (hd9 : d ≤ 9) : hz_W κ xX12_send 0 0 0 (fun rr z2 M2 => some (.int (hz_b (sdR q d t.length))) = rr ∧ z = z2 ∧ mfr B [86, 87, 88] [70, 71, 72, 73, 74, 75, 76] M M2 ∧ mdE M2 B ∧ mqR M2 B (if sdR q d t.length then q ++ [(nI v, to_, kd, now + nI d, t)] else q) now (if sdR q d t.length then gone else gone + 1)) 0 0 25 [(7, .int (nI d)), (0, .ref B), (1, .int (nI v)), (2, .int to_), (3, .int kd), (4, .ref r), (5, .int (nI at_)), (6, .int (nI (t.length)))] [] z M := by
  obtain ⟨fs, hO, hF⟩ := id hO_
  obtain ⟨⟨hX, hX2⟩, hq2, hq4, k86, k87, k88, k89⟩ := id hQ
  have g86 : fs[86]? = some (.int (nI q.length)) := (fdB_of hO 86).symm.trans k86
  have g87 : fs[87]? = some (.int (nI (msO q q.length))) := (fdB_of hO 87).symm.trans k87
  have g88 : fs[88]? = some (.int gone) := (fdB_of hO 88).symm.trans k88
  have g89 : fs[89]? = some (.int now) := (fdB_of hO 89).symm.trans k89
  refine hz_iload (pc := 25) 0 (hz_dec kX12_send 15 rfl) rfl ?_
  refine hz_z_eq (pc := 27) (tgt := 52) (hz_dec kX12_send 16 rfl) (by decide) (by omega) (fun h1 => ?_) (fun h1 => ?_)
  · skip
    have e9 : sdR q d t.length = false := decide_eq_false (fun q9 => q9.1 (by omega))
    refine hz_aloadn (pc := 52) 1 (hz_dec kX12_send 27 rfl) rfl ?_
    refine hz_dup (pc := 53) (hz_dec kX12_send 28 rfl) rfl ?_
    refine hz_get (pc := 54) (v := .int gone) (hz_dec kX12_send 29 rfl) fo_X12_616 hO h8 (by omega) g88 ?_
    refine hz_iconst (pc := 57) (v := nI 1) (hz_dec kX12_send 30 rfl) (by decide) ?_
    refine hz_iadd (pc := 58) (hz_dec kX12_send 31 rfl) ?_
    refine hz_puti (pc := 59) (hz_dec kX12_send 32 rfl) fo_X12_616 ft_X12_88 hO h8 (by omega) (by rw [hF.1]; decide) ?_
    refine hz_iconst (pc := 62) (v := nI 0) (hz_dec kX12_send 33 rfl) (by decide) ?_
    have hf1 : mfr B [88] [] M (va_up M B (.inr (12, (List.set fs 88 (.int ((gone) + (nI (1)))))))) := (mfr.rf ⟨fs, hO, hF⟩).upO (k := 88) hO hF rfl rfl
    refine hz_iret (pc := 63) (hz_dec kX12_send 34 rfl) rfl ⟨by rw [e9]; rfl, rfl, hf1.mono rfl rfl, hE.upO, ?_⟩
    rw [e9, if_neg (by decide), if_neg (by decide)]
    exact ⟨hQ.1.mf hf1 rfl, hq2, hq4, (hf1.2.2 86 rfl).trans k86, (hf1.2.2 87 rfl).trans k87, by rw [fdB_of (va_up_self _ _ _), List.getElem?_set_self (by rw [hF.1]; decide)]; rfl, (hf1.2.2 89 rfl).trans k89⟩
  · skip
    refine hz_aloadn (pc := 30) 1 (hz_dec kX12_send 17 rfl) rfl ?_
    refine hz_get (pc := 31) (v := .int (nI (q.length))) (hz_dec kX12_send 18 rfl) fo_X12_610 hO h8 (by omega) g86 ?_
    refine hz_sipush (pc := 34) (v := nI 200) (hz_dec kX12_send 19 rfl) (by decide) ?_
    refine hz_n_eq (pc := 37) (tgt := 52) (hz_dec kX12_send 20 rfl) (by decide) (by omega) (by omega) (fun h2 => ?_) (fun h2 => ?_)
    · skip
      have e9 : sdR q d t.length = false := decide_eq_false (fun q9 => by have q3 := q9.2.1; omega)
      refine hz_aloadn (pc := 52) 1 (hz_dec kX12_send 27 rfl) rfl ?_
      refine hz_dup (pc := 53) (hz_dec kX12_send 28 rfl) rfl ?_
      refine hz_get (pc := 54) (v := .int gone) (hz_dec kX12_send 29 rfl) fo_X12_616 hO h8 (by omega) g88 ?_
      refine hz_iconst (pc := 57) (v := nI 1) (hz_dec kX12_send 30 rfl) (by decide) ?_
      refine hz_iadd (pc := 58) (hz_dec kX12_send 31 rfl) ?_
      refine hz_puti (pc := 59) (hz_dec kX12_send 32 rfl) fo_X12_616 ft_X12_88 hO h8 (by omega) (by rw [hF.1]; decide) ?_
      refine hz_iconst (pc := 62) (v := nI 0) (hz_dec kX12_send 33 rfl) (by decide) ?_
      have hf1 : mfr B [88] [] M (va_up M B (.inr (12, (List.set fs 88 (.int ((gone) + (nI (1)))))))) := (mfr.rf ⟨fs, hO, hF⟩).upO (k := 88) hO hF rfl rfl
      refine hz_iret (pc := 63) (hz_dec kX12_send 34 rfl) rfl ⟨by rw [e9]; rfl, rfl, hf1.mono rfl rfl, hE.upO, ?_⟩
      rw [e9, if_neg (by decide), if_neg (by decide)]
      exact ⟨hQ.1.mf hf1 rfl, hq2, hq4, (hf1.2.2 86 rfl).trans k86, (hf1.2.2 87 rfl).trans k87, by rw [fdB_of (va_up_self _ _ _), List.getElem?_set_self (by rw [hF.1]; decide)]; rfl, (hf1.2.2 89 rfl).trans k89⟩
    · skip
      refine hz_aloadn (pc := 40) 1 (hz_dec kX12_send 21 rfl) rfl ?_
      refine hz_get (pc := 41) (v := .int (nI (msO q q.length))) (hz_dec kX12_send 22 rfl) fo_X12_613 hO h8 (by omega) g87 ?_
      refine hz_iload (pc := 44) 7 (hz_dec kX12_send 23 rfl) rfl ?_
      refine hz_addN (pc := 46) (hz_dec kX12_send 24 rfl) ?_
      refine hz_ldc (pc := 47) (v := nI 40000) (hz_dec kX12_send 25 rfl) ks_X12_248 ?_
      refine hz_n_le (pc := 49) (tgt := 64) (hz_dec kX12_send 26 rfl) (by decide) (by omega) (by omega) (fun h3 => ?_) (fun h3 => ?_)
      · skip
        have e9 : sdR q d t.length = true := decide_eq_true ⟨by omega, by omega, by omega⟩
        refine hz_bytes hB hr8 hrz (fun hby => ?_)
        refine hz_aloadn (pc := 64) 1 (hz_dec kX12_send 35 rfl) rfl ?_
        refine hz_get (pc := 65) (v := .ref (B + 70)) (hz_dec kX12_send 36 rfl) fo_X12_230 hO h8 (by omega) (hF.2 79 (by decide) (by decide)) ?_
        refine hz_aloadn (pc := 68) 1 (hz_dec kX12_send 37 rfl) rfl ?_
        refine hz_get (pc := 69) (v := .int (nI (q.length))) (hz_dec kX12_send 38 rfl) fo_X12_610 hO h8 (by omega) g86 ?_
        refine hz_iloadn (pc := 72) 2 (hz_dec kX12_send 39 rfl) rfl ?_
        refine hz_iast (pc := 73) (j := q.length) (hz_dec kX12_send 40 rfl) hE.a70 (by omega) (by omega) rfl (by omega) (by decide) ?_
        refine hz_aloadn (pc := 74) 1 (hz_dec kX12_send 41 rfl) rfl ?_
        refine hz_get (pc := 75) (v := .ref (B + 71)) (hz_dec kX12_send 42 rfl) fo_X12_233 (hz_mne hO (by omega)) h8 (by omega) (hF.2 80 (by decide) (by decide)) ?_
        refine hz_aloadn (pc := 78) 1 (hz_dec kX12_send 43 rfl) rfl ?_
        refine hz_get (pc := 79) (v := .int (nI (q.length))) (hz_dec kX12_send 44 rfl) fo_X12_610 (hz_mne hO (by omega)) h8 (by omega) g86 ?_
        refine hz_iloadn (pc := 82) 3 (hz_dec kX12_send 45 rfl) rfl ?_
        refine hz_iast (pc := 83) (j := q.length) (hz_dec kX12_send 46 rfl) (hz_mne hE.a71 (by omega)) (by omega) (by omega) rfl (by omega) (by decide) ?_
        refine hz_aloadn (pc := 84) 1 (hz_dec kX12_send 47 rfl) rfl ?_
        refine hz_get (pc := 85) (v := .ref (B + 72)) (hz_dec kX12_send 48 rfl) fo_X12_236 (hz_mne (hz_mne hO (by omega)) (by omega)) h8 (by omega) (hF.2 81 (by decide) (by decide)) ?_
        refine hz_aloadn (pc := 88) 1 (hz_dec kX12_send 49 rfl) rfl ?_
        refine hz_get (pc := 89) (v := .int (nI (q.length))) (hz_dec kX12_send 50 rfl) fo_X12_610 (hz_mne (hz_mne hO (by omega)) (by omega)) h8 (by omega) g86 ?_
        refine hz_iloadn (pc := 92) 4 (hz_dec kX12_send 51 rfl) rfl ?_
        refine hz_iast (pc := 93) (j := q.length) (hz_dec kX12_send 52 rfl) (hz_mne (hz_mne hE.a72 (by omega)) (by omega)) (by omega) (by omega) rfl (by omega) (by decide) ?_
        refine hz_aloadn (pc := 94) 1 (hz_dec kX12_send 53 rfl) rfl ?_
        refine hz_get (pc := 95) (v := .ref (B + 73)) (hz_dec kX12_send 54 rfl) fo_X12_239 (hz_mne (hz_mne (hz_mne hO (by omega)) (by omega)) (by omega)) h8 (by omega) (hF.2 82 (by decide) (by decide)) ?_
        refine hz_aloadn (pc := 98) 1 (hz_dec kX12_send 55 rfl) rfl ?_
        refine hz_get (pc := 99) (v := .int (nI (q.length))) (hz_dec kX12_send 56 rfl) fo_X12_610 (hz_mne (hz_mne (hz_mne hO (by omega)) (by omega)) (by omega)) h8 (by omega) g86 ?_
        refine hz_aloadn (pc := 102) 1 (hz_dec kX12_send 57 rfl) rfl ?_
        refine hz_get (pc := 103) (v := .int now) (hz_dec kX12_send 58 rfl) fo_X12_619 (hz_mne (hz_mne (hz_mne hO (by omega)) (by omega)) (by omega)) h8 (by omega) g89 ?_
        refine hz_iload (pc := 106) 0 (hz_dec kX12_send 59 rfl) rfl ?_
        refine hz_iadd (pc := 108) (hz_dec kX12_send 60 rfl) ?_
        refine hz_iast (pc := 109) (j := q.length) (hz_dec kX12_send 61 rfl) (hz_mne (hz_mne (hz_mne hE.a73 (by omega)) (by omega)) (by omega)) (by omega) (by omega) rfl (by omega) (by decide) ?_
        refine hz_aloadn (pc := 110) 1 (hz_dec kX12_send 62 rfl) rfl ?_
        refine hz_get (pc := 111) (v := .ref (B + 74)) (hz_dec kX12_send 63 rfl) fo_X12_242 (hz_mne (hz_mne (hz_mne (hz_mne hO (by omega)) (by omega)) (by omega)) (by omega)) h8 (by omega) (hF.2 83 (by decide) (by decide)) ?_
        refine hz_aloadn (pc := 114) 1 (hz_dec kX12_send 64 rfl) rfl ?_
        refine hz_get (pc := 115) (v := .int (nI (q.length))) (hz_dec kX12_send 65 rfl) fo_X12_610 (hz_mne (hz_mne (hz_mne (hz_mne hO (by omega)) (by omega)) (by omega)) (by omega)) h8 (by omega) g86 ?_
        refine hz_iload (pc := 118) 7 (hz_dec kX12_send 66 rfl) rfl ?_
        refine hz_iast (pc := 120) (j := q.length) (hz_dec kX12_send 67 rfl) (hz_mne (hz_mne (hz_mne (hz_mne hE.a74 (by omega)) (by omega)) (by omega)) (by omega)) (by omega) (by omega) rfl (by omega) (by decide) ?_
        refine hz_aloadn (pc := 121) 1 (hz_dec kX12_send 68 rfl) rfl ?_
        refine hz_get (pc := 122) (v := .ref (B + 75)) (hz_dec kX12_send 69 rfl) fo_X12_245 (hz_mne (hz_mne (hz_mne (hz_mne (hz_mne hO (by omega)) (by omega)) (by omega)) (by omega)) (by omega)) h8 (by omega) (hF.2 84 (by decide) (by decide)) ?_
        refine hz_aloadn (pc := 125) 1 (hz_dec kX12_send 70 rfl) rfl ?_
        refine hz_get (pc := 126) (v := .int (nI (q.length))) (hz_dec kX12_send 71 rfl) fo_X12_610 (hz_mne (hz_mne (hz_mne (hz_mne (hz_mne hO (by omega)) (by omega)) (by omega)) (by omega)) (by omega)) h8 (by omega) g86 ?_
        refine hz_aloadn (pc := 129) 1 (hz_dec kX12_send 72 rfl) rfl ?_
        refine hz_get (pc := 130) (v := .int (nI (msO q q.length))) (hz_dec kX12_send 73 rfl) fo_X12_613 (hz_mne (hz_mne (hz_mne (hz_mne (hz_mne hO (by omega)) (by omega)) (by omega)) (by omega)) (by omega)) h8 (by omega) g87 ?_
        refine hz_iast (pc := 133) (j := q.length) (hz_dec kX12_send 74 rfl) (hz_mne (hz_mne (hz_mne (hz_mne (hz_mne hE.a75 (by omega)) (by omega)) (by omega)) (by omega)) (by omega)) (by omega) (by omega) rfl (by omega) (by decide) ?_
        refine hz_iconst (pc := 134) (v := nI 0) (hz_dec kX12_send 75 rfl) (by decide) ?_
        refine hz_istore (pc := 135) (i := 8) (lo2 := [(8, .int (nI 0)), (7, .int (nI d)), (0, .ref B), (1, .int (nI v)), (2, .int to_), (3, .int kd), (4, .ref r), (5, .int (nI at_)), (6, .int (nI (t.length)))]) (hz_dec kX12_send 76 rfl) (by decide) rfl ?_
        refine hz_pick (pc := 137) [0, 8, 2, 6, 7] rfl ?_
        have hf1 : mfr B [] [70, 71, 72, 73, 74, 75] M (va_up (va_up (va_up (va_up (va_up (va_up M (B + 70) (.inl (0, 200, .inl (upd (fA M B 70) (q.length) ((nI (v))))))) (B + 71) (.inl (0, 200, .inl (upd (fA M B 71) (q.length) ((to_)))))) (B + 72) (.inl (0, 200, .inl (upd (fA M B 72) (q.length) ((kd)))))) (B + 73) (.inl (0, 200, .inl (upd (fA M B 73) (q.length) (((now) + (nI (d)))))))) (B + 74) (.inl (0, 200, .inl (upd (fA M B 74) (q.length) ((nI (t.length))))))) (B + 75) (.inl (0, 200, .inl (upd (fA M B 75) (q.length) ((nI (msO q q.length))))))) := (((((((mfr.rf (ks := []) (os := [70, 71, 72, 73, 74, 75]) ⟨fs, hO, hF⟩).upA (o := 70) rfl (by decide)).upA (o := 71) rfl (by decide)).upA (o := 72) rfl (by decide)).upA (o := 73) rfl (by decide)).upA (o := 74) rfl (by decide)).upA (o := 75) rfl (by decide))
        have hE1 : mdE (va_up (va_up (va_up (va_up (va_up (va_up M (B + 70) (.inl (0, 200, .inl (upd (fA M B 70) (q.length) ((nI (v))))))) (B + 71) (.inl (0, 200, .inl (upd (fA M B 71) (q.length) ((to_)))))) (B + 72) (.inl (0, 200, .inl (upd (fA M B 72) (q.length) ((kd)))))) (B + 73) (.inl (0, 200, .inl (upd (fA M B 73) (q.length) (((now) + (nI (d)))))))) (B + 74) (.inl (0, 200, .inl (upd (fA M B 74) (q.length) ((nI (t.length))))))) (B + 75) (.inl (0, 200, .inl (upd (fA M B 75) (q.length) ((nI (msO q q.length))))))) B := (mdE.upA (mdE.upA (mdE.upA (mdE.upA (mdE.upA (mdE.upA hE (by decide)) (by decide)) (by decide)) (by decide)) (by decide)) (by decide))
        have hO1 : (va_up (va_up (va_up (va_up (va_up (va_up M (B + 70) (.inl (0, 200, .inl (upd (fA M B 70) (q.length) ((nI (v))))))) (B + 71) (.inl (0, 200, .inl (upd (fA M B 71) (q.length) ((to_)))))) (B + 72) (.inl (0, 200, .inl (upd (fA M B 72) (q.length) ((kd)))))) (B + 73) (.inl (0, 200, .inl (upd (fA M B 73) (q.length) (((now) + (nI (d)))))))) (B + 74) (.inl (0, 200, .inl (upd (fA M B 74) (q.length) ((nI (t.length))))))) (B + 75) (.inl (0, 200, .inl (upd (fA M B 75) (q.length) ((nI (msO q q.length))))))) B = .inr (12, fs) := (hz_mne (hz_mne (hz_mne (hz_mne (hz_mne (hz_mne hO (by omega)) (by omega)) (by omega)) (by omega)) (by omega)) (by omega))
        have h761 : (va_up (va_up (va_up (va_up (va_up (va_up M (B + 70) (.inl (0, 200, .inl (upd (fA M B 70) (q.length) ((nI (v))))))) (B + 71) (.inl (0, 200, .inl (upd (fA M B 71) (q.length) ((to_)))))) (B + 72) (.inl (0, 200, .inl (upd (fA M B 72) (q.length) ((kd)))))) (B + 73) (.inl (0, 200, .inl (upd (fA M B 73) (q.length) (((now) + (nI (d)))))))) (B + 74) (.inl (0, 200, .inl (upd (fA M B 74) (q.length) ((nI (t.length))))))) (B + 75) (.inl (0, 200, .inl (upd (fA M B 75) (q.length) ((nI (msO q q.length))))))) (B + 76) = .inl (1, 40000, .inl (fA M B 76)) := (hz_mne (hz_mne (hz_mne (hz_mne (hz_mne (hz_mne hE.a76 (by omega)) (by omega)) (by omega)) (by omega)) (by omega)) (by omega))
        have hB1 : (va_up (va_up (va_up (va_up (va_up (va_up M (B + 70) (.inl (0, 200, .inl (upd (fA M B 70) (q.length) ((nI (v))))))) (B + 71) (.inl (0, 200, .inl (upd (fA M B 71) (q.length) ((to_)))))) (B + 72) (.inl (0, 200, .inl (upd (fA M B 72) (q.length) ((kd)))))) (B + 73) (.inl (0, 200, .inl (upd (fA M B 73) (q.length) (((now) + (nI (d)))))))) (B + 74) (.inl (0, 200, .inl (upd (fA M B 74) (q.length) ((nI (t.length))))))) (B + 75) (.inl (0, 200, .inl (upd (fA M B 75) (q.length) ((nI (msO q q.length))))))) r = .inl (1, n, .inl f) := (hz_mne (hz_mne (hz_mne (hz_mne (hz_mne (hz_mne hB (hro 70 (by decide))) (hro 71 (by decide))) (hro 72 (by decide))) (hro 73 (by decide))) (hro 74 (by decide))) (hro 75 (by decide)))
        have p70t : (va_up (va_up (va_up (va_up (va_up (va_up M (B + 70) (.inl (0, 200, .inl (upd (fA M B 70) (q.length) ((nI (v))))))) (B + 71) (.inl (0, 200, .inl (upd (fA M B 71) (q.length) ((to_)))))) (B + 72) (.inl (0, 200, .inl (upd (fA M B 72) (q.length) ((kd)))))) (B + 73) (.inl (0, 200, .inl (upd (fA M B 73) (q.length) (((now) + (nI (d)))))))) (B + 74) (.inl (0, 200, .inl (upd (fA M B 74) (q.length) ((nI (t.length))))))) (B + 75) (.inl (0, 200, .inl (upd (fA M B 75) (q.length) ((nI (msO q q.length))))))) (B + 70) = .inl (0, 200, .inl (upd (fA M B 70) (q.length) ((nI (v))))) := (hz_mne (hz_mne (hz_mne (hz_mne (hz_mne (va_up_self _ _ _) (by omega)) (by omega)) (by omega)) (by omega)) (by omega))
        have p71t : (va_up (va_up (va_up (va_up (va_up (va_up M (B + 70) (.inl (0, 200, .inl (upd (fA M B 70) (q.length) ((nI (v))))))) (B + 71) (.inl (0, 200, .inl (upd (fA M B 71) (q.length) ((to_)))))) (B + 72) (.inl (0, 200, .inl (upd (fA M B 72) (q.length) ((kd)))))) (B + 73) (.inl (0, 200, .inl (upd (fA M B 73) (q.length) (((now) + (nI (d)))))))) (B + 74) (.inl (0, 200, .inl (upd (fA M B 74) (q.length) ((nI (t.length))))))) (B + 75) (.inl (0, 200, .inl (upd (fA M B 75) (q.length) ((nI (msO q q.length))))))) (B + 71) = .inl (0, 200, .inl (upd (fA M B 71) (q.length) ((to_)))) := (hz_mne (hz_mne (hz_mne (hz_mne (va_up_self _ _ _) (by omega)) (by omega)) (by omega)) (by omega))
        have p72t : (va_up (va_up (va_up (va_up (va_up (va_up M (B + 70) (.inl (0, 200, .inl (upd (fA M B 70) (q.length) ((nI (v))))))) (B + 71) (.inl (0, 200, .inl (upd (fA M B 71) (q.length) ((to_)))))) (B + 72) (.inl (0, 200, .inl (upd (fA M B 72) (q.length) ((kd)))))) (B + 73) (.inl (0, 200, .inl (upd (fA M B 73) (q.length) (((now) + (nI (d)))))))) (B + 74) (.inl (0, 200, .inl (upd (fA M B 74) (q.length) ((nI (t.length))))))) (B + 75) (.inl (0, 200, .inl (upd (fA M B 75) (q.length) ((nI (msO q q.length))))))) (B + 72) = .inl (0, 200, .inl (upd (fA M B 72) (q.length) ((kd)))) := (hz_mne (hz_mne (hz_mne (va_up_self _ _ _) (by omega)) (by omega)) (by omega))
        have p73t : (va_up (va_up (va_up (va_up (va_up (va_up M (B + 70) (.inl (0, 200, .inl (upd (fA M B 70) (q.length) ((nI (v))))))) (B + 71) (.inl (0, 200, .inl (upd (fA M B 71) (q.length) ((to_)))))) (B + 72) (.inl (0, 200, .inl (upd (fA M B 72) (q.length) ((kd)))))) (B + 73) (.inl (0, 200, .inl (upd (fA M B 73) (q.length) (((now) + (nI (d)))))))) (B + 74) (.inl (0, 200, .inl (upd (fA M B 74) (q.length) ((nI (t.length))))))) (B + 75) (.inl (0, 200, .inl (upd (fA M B 75) (q.length) ((nI (msO q q.length))))))) (B + 73) = .inl (0, 200, .inl (upd (fA M B 73) (q.length) (((now) + (nI (d)))))) := (hz_mne (hz_mne (va_up_self _ _ _) (by omega)) (by omega))
        have p74t : (va_up (va_up (va_up (va_up (va_up (va_up M (B + 70) (.inl (0, 200, .inl (upd (fA M B 70) (q.length) ((nI (v))))))) (B + 71) (.inl (0, 200, .inl (upd (fA M B 71) (q.length) ((to_)))))) (B + 72) (.inl (0, 200, .inl (upd (fA M B 72) (q.length) ((kd)))))) (B + 73) (.inl (0, 200, .inl (upd (fA M B 73) (q.length) (((now) + (nI (d)))))))) (B + 74) (.inl (0, 200, .inl (upd (fA M B 74) (q.length) ((nI (t.length))))))) (B + 75) (.inl (0, 200, .inl (upd (fA M B 75) (q.length) ((nI (msO q q.length))))))) (B + 74) = .inl (0, 200, .inl (upd (fA M B 74) (q.length) ((nI (t.length))))) := (hz_mne (va_up_self _ _ _) (by omega))
        have p75t : (va_up (va_up (va_up (va_up (va_up (va_up M (B + 70) (.inl (0, 200, .inl (upd (fA M B 70) (q.length) ((nI (v))))))) (B + 71) (.inl (0, 200, .inl (upd (fA M B 71) (q.length) ((to_)))))) (B + 72) (.inl (0, 200, .inl (upd (fA M B 72) (q.length) ((kd)))))) (B + 73) (.inl (0, 200, .inl (upd (fA M B 73) (q.length) (((now) + (nI (d)))))))) (B + 74) (.inl (0, 200, .inl (upd (fA M B 74) (q.length) ((nI (t.length))))))) (B + 75) (.inl (0, 200, .inl (upd (fA M B 75) (q.length) ((nI (msO q q.length))))))) (B + 75) = .inl (0, 200, .inl (upd (fA M B 75) (q.length) ((nI (msO q q.length))))) := (va_up_self _ _ _)
        generalize hM1 : (va_up (va_up (va_up (va_up (va_up (va_up M (B + 70) (.inl (0, 200, .inl (upd (fA M B 70) (q.length) ((nI (v))))))) (B + 71) (.inl (0, 200, .inl (upd (fA M B 71) (q.length) ((to_)))))) (B + 72) (.inl (0, 200, .inl (upd (fA M B 72) (q.length) ((kd)))))) (B + 73) (.inl (0, 200, .inl (upd (fA M B 73) (q.length) (((now) + (nI (d)))))))) (B + 74) (.inl (0, 200, .inl (upd (fA M B 74) (q.length) ((nI (t.length))))))) (B + 75) (.inl (0, 200, .inl (upd (fA M B 75) (q.length) ((nI (msO q q.length))))))) = M1 at *
        refine hz_mem (pc := 137) (hz_upid h761).symm ?_
        refine c_ms_c hO1 hF h8 hz h761 g87 hB1 hr8 hrz (hro 76 (by decide)) hn ht hat (by omega) hby (fun g hgA hgl => ?_) t.length 0 _ rfl (by omega) (fun j hj => absurd hj (by omega)) (fun x _ => rfl)
        refine hz_aloadn (pc := 170) 1 (hz_dec kX12_send 94 rfl) rfl ?_
        refine hz_dup (pc := 171) (hz_dec kX12_send 95 rfl) rfl ?_
        refine hz_get (pc := 172) (v := .int (nI (msO q q.length))) (hz_dec kX12_send 96 rfl) fo_X12_613 (hz_mne hO1 (by omega)) h8 (by omega) g87 ?_
        refine hz_iload (pc := 175) 0 (hz_dec kX12_send 97 rfl) rfl ?_
        refine hz_addN (pc := 177) (hz_dec kX12_send 98 rfl) ?_
        refine hz_puti (pc := 178) (hz_dec kX12_send 99 rfl) fo_X12_613 ft_X12_87 (hz_mne hO1 (by omega)) h8 (by omega) (by rw [hF.1]; decide) ?_
        refine hz_aloadn (pc := 181) 1 (hz_dec kX12_send 100 rfl) rfl ?_
        refine hz_dup (pc := 182) (hz_dec kX12_send 101 rfl) rfl ?_
        refine hz_get (pc := 183) (v := .int (nI (q.length))) (hz_dec kX12_send 102 rfl) fo_X12_610 (va_up_self _ _ _) h8 (by omega) ((List.getElem?_set_ne (by decide)).trans g86) ?_
        refine hz_iconst (pc := 186) (v := nI 1) (hz_dec kX12_send 103 rfl) (by decide) ?_
        refine hz_addN (pc := 187) (hz_dec kX12_send 104 rfl) ?_
        refine hz_puti (pc := 188) (hz_dec kX12_send 105 rfl) fo_X12_610 ft_X12_86 (va_up_self _ _ _) h8 (by omega) (by rw [(md_set hF rfl).1]; decide) ?_
        refine hz_iconst (pc := 191) (v := nI 1) (hz_dec kX12_send 106 rfl) (by decide) ?_
        have hf2 : mfr B [] [76] M1 (va_up M1 (B + 76) (.inl (1, 40000, .inl g))) := (mfr.rf ⟨fs, hO1, hF⟩).upA (o := 76) rfl (by decide)
        have hf3 : mfr B [86, 87] [] (va_up M1 (B + 76) (.inl (1, 40000, .inl g))) (va_up (va_up (va_up M1 (B + 76) (.inl (1, 40000, .inl (g)))) B (.inr (12, (List.set fs 87 (.int (nI ((msO q q.length) + (t.length)))))))) B (.inr (12, (List.set (List.set fs 87 (.int (nI ((msO q q.length) + (t.length))))) 86 (.int (nI ((q.length) + 1))))))) := ((mfr.rf hf2.2.1).upO (k := 87) (hz_mne hO1 (by omega)) hF rfl rfl).upO (k := 86) (va_up_self _ _ _) (md_set hF rfl) rfl rfl
        have hff : mfr B [86, 87, 88] [70, 71, 72, 73, 74, 75, 76] M (va_up (va_up (va_up M1 (B + 76) (.inl (1, 40000, .inl (g)))) B (.inr (12, (List.set fs 87 (.int (nI ((msO q q.length) + (t.length)))))))) B (.inr (12, (List.set (List.set fs 87 (.int (nI ((msO q q.length) + (t.length))))) 86 (.int (nI ((q.length) + 1))))))) := ((hf1.mono rfl rfl).tr (hf2.mono rfl rfl)).tr (hf3.mono rfl rfl)
        have h76e : (va_up (va_up (va_up M1 (B + 76) (.inl (1, 40000, .inl (g)))) B (.inr (12, (List.set fs 87 (.int (nI ((msO q q.length) + (t.length)))))))) B (.inr (12, (List.set (List.set fs 87 (.int (nI ((msO q q.length) + (t.length))))) 86 (.int (nI ((q.length) + 1))))))) (B + 76) = .inl (1, 40000, .inl g) := hz_mne (hz_mne (va_up_self _ _ _) (by omega)) (by omega)
        have p70e := fA_of ((hf3.at 70 (by decide) rfl).trans ((hf2.at 70 (by decide) rfl).trans p70t))
        have p71e := fA_of ((hf3.at 71 (by decide) rfl).trans ((hf2.at 71 (by decide) rfl).trans p71t))
        have p72e := fA_of ((hf3.at 72 (by decide) rfl).trans ((hf2.at 72 (by decide) rfl).trans p72t))
        have p73e := fA_of ((hf3.at 73 (by decide) rfl).trans ((hf2.at 73 (by decide) rfl).trans p73t))
        have p74e := fA_of ((hf3.at 74 (by decide) rfl).trans ((hf2.at 74 (by decide) rfl).trans p74t))
        have p75e := fA_of ((hf3.at 75 (by decide) rfl).trans ((hf2.at 75 (by decide) rfl).trans p75t))
        refine hz_iret (pc := 192) (hz_dec kX12_send 107 rfl) rfl ⟨by rw [e9]; rfl, rfl, hff, ?_, ?_⟩
        · exact (hE1.upA (by decide)).upO.upO
        · rw [e9, if_pos rfl, if_pos rfl]
          refine ⟨⟨?_, fun k hk => ?_⟩, by rw [List.length_append]; show q.length + 1 ≤ 200; omega, by rw [msO_last]; show msO q q.length + t.length ≤ 40000; omega, ?_, ?_, ?_, (hff.2.2 89 rfl).trans k89⟩
          · rw [p70e, p71e, p72e, p73e]; exact msX_app hX
          · rw [p74e, p75e, fA_of h76e]
            rw [List.length_append] at hk
            have hk2 : k < q.length + 1 := hk
            rw [msO_app (by omega)]
            rcases (show k = q.length ∨ k < q.length by omega) with e | c9
            · rw [e, msL_last]; simp only [upd]; exact ⟨if_pos trivial, if_pos trivial, hgA⟩
            · rw [msL_app c9]; simp only [upd, if_neg (show ¬ k = q.length by omega)]
              obtain ⟨a1, a2, a3⟩ := hX2 k c9
              refine ⟨a1, a2, isA_c a3 (fun j hj => hgl _ ?_)⟩
              have hm := offL_mono (msB q) q.length (k + 1) (by omega)
              simp only [offL] at hm
              rw [rowL_ms] at hm
              have hm2 : msO q k + (msL q k).2.2.2.2.length ≤ msO q q.length := hm
              omega
          · rw [fdB_of (va_up_self _ _ _), List.getElem?_set_self (by rw [List.length_set, hF.1]; decide), List.length_append]; rfl
          · rw [fdB_of (va_up_self _ _ _), List.getElem?_set_ne (by decide), List.getElem?_set_self (by rw [hF.1]; decide), msO_last]
          · exact (hf3.2.2 88 rfl).trans ((hf2.2.2 88 rfl).trans ((hf1.2.2 88 rfl).trans k88))
      · skip
        have e9 : sdR q d t.length = false := decide_eq_false (fun q9 => by have q3 := q9.2.2; omega)
        refine hz_aloadn (pc := 52) 1 (hz_dec kX12_send 27 rfl) rfl ?_
        refine hz_dup (pc := 53) (hz_dec kX12_send 28 rfl) rfl ?_
        refine hz_get (pc := 54) (v := .int gone) (hz_dec kX12_send 29 rfl) fo_X12_616 hO h8 (by omega) g88 ?_
        refine hz_iconst (pc := 57) (v := nI 1) (hz_dec kX12_send 30 rfl) (by decide) ?_
        refine hz_iadd (pc := 58) (hz_dec kX12_send 31 rfl) ?_
        refine hz_puti (pc := 59) (hz_dec kX12_send 32 rfl) fo_X12_616 ft_X12_88 hO h8 (by omega) (by rw [hF.1]; decide) ?_
        refine hz_iconst (pc := 62) (v := nI 0) (hz_dec kX12_send 33 rfl) (by decide) ?_
        have hf1 : mfr B [88] [] M (va_up M B (.inr (12, (List.set fs 88 (.int ((gone) + (nI (1)))))))) := (mfr.rf ⟨fs, hO, hF⟩).upO (k := 88) hO hF rfl rfl
        refine hz_iret (pc := 63) (hz_dec kX12_send 34 rfl) rfl ⟨by rw [e9]; rfl, rfl, hf1.mono rfl rfl, hE.upO, ?_⟩
        rw [e9, if_neg (by decide), if_neg (by decide)]
        exact ⟨hQ.1.mf hf1 rfl, hq2, hq4, (hf1.2.2 86 rfl).trans k86, (hf1.2.2 87 rfl).trans k87, by rw [fdB_of (va_up_self _ _ _), List.getElem?_set_self (by rw [hF.1]; decide)]; rfl, (hf1.2.2 89 rfl).trans k89⟩
set_option maxHeartbeats 4000000 in
set_option maxRecDepth 100000 in
theorem c_msend {κ : hz_C} {z : Nat} {M : hz_M} {B : Nat} (hO_ : md_O M B) (hE : mdE M B) (h8 : 8 ≤ B) (hz : B + 88 ≤ z) {q : List ms_M} {now gone : Int32} (hQ : mqR M B q now gone) {dl : Nat → Nat} (hD : mdD M B dl) {r n at_ : Nat} {f : Nat → Int32} {t : by_L} (hB : M r = .inl (1, n, .inl f)) (hr8 : 8 ≤ r) (hrz : r < z) (hro : ∀ o ∈ (0 :: [70, 71, 72, 73, 74, 75, 76]), r ≠ B + o) (hn : n < 2 ^ 24) (ht : isA f at_ t) (hat : at_ + t.length ≤ n) (hl4 : t.length ≤ 4000) {v d : Nat} {to_ kd : Int32} (hv : v < 6) (hto : (∃ b, b < 6 ∧ to_ = nI b ∧ d = dl (6 * v + b)) ∨ (to_ < 0 ∧ d = 0)) : hz_Mt κ xX12_send 0 0 0 [.ref B, .int (nI v), .int to_, .int kd, .ref r, .int (nI at_), .int (nI t.length)] z M (fun rr z2 M2 => some (.int (hz_b (sdR q d t.length))) = rr ∧ z = z2 ∧ mfr B [86, 87, 88] [70, 71, 72, 73, 74, 75, 76] M M2 ∧ mdE M2 B ∧ mqR M2 B (if sdR q d t.length then q ++ [(nI v, to_, kd, now + nI d, t)] else q) now (if sdR q d t.length then gone else gone + 1)) := by
  refine hz_ent (lo := [(0, .ref B), (1, .int (nI v)), (2, .int to_), (3, .int kd), (4, .ref r), (5, .int (nI at_)), (6, .int (nI (t.length)))]) (by decide) (Nat.le_of_ble_eq_true rfl) rfl ?_
  obtain ⟨fs, hO, hF⟩ := id hO_
  obtain ⟨⟨hX, hX2⟩, hq2, hq4, k86, k87, k88, k89⟩ := id hQ
  have g86 : fs[86]? = some (.int (nI q.length)) := (fdB_of hO 86).symm.trans k86
  have g87 : fs[87]? = some (.int (nI (msO q q.length))) := (fdB_of hO 87).symm.trans k87
  have g88 : fs[88]? = some (.int gone) := (fdB_of hO 88).symm.trans k88
  have g89 : fs[89]? = some (.int now) := (fdB_of hO 89).symm.trans k89
  refine hz_iloadn (pc := 0) 1 (hz_dec kX12_send 0 rfl) rfl ?_
  refine hz_z_lt (pc := 1) (tgt := 8) (hz_dec kX12_send 1 rfl) (by decide) (by omega) ?_
  refine hz_iloadn (pc := 4) 2 (hz_dec kX12_send 2 rfl) rfl ?_
  refine hz_if_ge (pc := 5) (tgt := 12) (hz_dec kX12_send 3 rfl) (by decide) (fun h2 => ?_) (fun h2 => ?_)
  · skip
    obtain ⟨b, hb, rfl, rfl⟩ := hto.resolve_right (fun q9 => Int32.not_lt.mpr h2 q9.1)
    refine hz_aloadn (pc := 12) 0 (hz_dec kX12_send 6 rfl) rfl ?_
    refine hz_get (pc := 13) (v := .ref (B + 69)) (hz_dec kX12_send 7 rfl) fo_X12_227 hO h8 (by omega) (hF.2 78 (by decide) (by decide)) ?_
    refine hz_bipush (pc := 16) (v := nI 6) (hz_dec kX12_send 8 rfl) (by decide) ?_
    refine hz_iloadn (pc := 18) 1 (hz_dec kX12_send 9 rfl) rfl ?_
    refine hz_mulN (pc := 19) (hz_dec kX12_send 10 rfl) ?_
    refine hz_iloadn (pc := 20) 2 (hz_dec kX12_send 11 rfl) rfl ?_
    refine hz_addN (pc := 21) (hz_dec kX12_send 12 rfl) ?_
    refine hz_iald (pc := 22) (j := (6 * v) + b) (hz_dec kX12_send 13 rfl) hE.a69 (by omega) (by omega) rfl (by omega) (by decide) ?_
    refine hz_eqi (pc := 23) (hD ((6 * v) + b) (by omega)).1 ?_
    refine hz_istore (pc := 23) (i := 7) (lo2 := [(7, .int (nI (dl ((6 * v) + b)))), (0, .ref B), (1, .int (nI v)), (2, .int (nI b)), (3, .int kd), (4, .ref r), (5, .int (nI at_)), (6, .int (nI (t.length)))]) (hz_dec kX12_send 14 rfl) (by decide) rfl ?_
    refine hz_pick (pc := 25) [0, 1, 2, 3, 4, 5, 6, 7] rfl ?_
    exact c_ms_2 hO_ hE h8 hz hQ hD hB hr8 hrz hro hn ht hat hl4 hv hto (hD _ (by omega)).2
  · skip
    refine hz_iconst (pc := 8) (v := nI 0) (hz_dec kX12_send 4 rfl) (by decide) ?_
    refine hz_goto (pc := 9) (tgt := 23) (hz_dec kX12_send 5 rfl) (by decide) ?_
    refine hz_istore (pc := 23) (i := 7) (lo2 := [(7, .int (nI 0)), (0, .ref B), (1, .int (nI v)), (2, .int to_), (3, .int kd), (4, .ref r), (5, .int (nI at_)), (6, .int (nI (t.length)))]) (hz_dec kX12_send 14 rfl) (by decide) rfl ?_
    have e0 : d = 0 := by
      rcases hto with ⟨b, hb, hb2, -⟩ | ⟨-, e⟩
      · rw [hb2] at h2; exact absurd (nI_pos (by omega)) (fun q9 => h2 (Int32.not_lt.mp q9))
      · exact e
    subst e0
    refine hz_pick (pc := 25) [0, 1, 2, 3, 4, 5, 6, 7] rfl ?_
    exact c_ms_2 hO_ hE h8 hz hQ hD hB hr8 hrz hro hn ht hat hl4 hv hto (by omega)
