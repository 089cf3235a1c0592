/-! the reference: bring; addToPool -/
set_option maxHeartbeats 4000000 in
set_option maxRecDepth 100000 in
theorem c_br_l {κ : hz_C} {z : Nat} {M : hz_M} {B : Nat} (hO_ : md_O M B) (hE : mdE M B) (h8 : 8 ≤ B) (hz : B + 88 ≤ z) {v tip : Nat} {bl : List bk_B} (hv : v < 6) (hnb : bl.length ≤ 128) (hN : nbX (fA M B) (fL M B) v bl tip) {x : Nat} (hx : x < bl.length) (hsz : (bBy bl x).length ≤ 200 ∨ fA M B 24 (128 * v + x) ≠ -1) (hs4 : (bBy bl x).length ≤ 4000) {fs : List Value} (hO : M B = .inr (12, fs)) (hF : md_F B fs) (hby34 : ∀ j, j < 200 → (fA M B 34 j).toInt8.toInt32 = fA M B 34 j) (hby51 : ∀ j, j < 73728 → (fA M B 51 j).toInt8.toInt32 = fA M B 51 j) : ∀ k i g, k = (bBy bl x).length - i → i ≤ (bBy bl x).length → (∀ j, j < i → g j = lf (bBy bl x) j) → hz_W κ xX12_bring 1 0 0 (fun r z2 M2 => none = r ∧ z = z2 ∧ mfr B [39] [35] M M2 ∧ mdE M2 B ∧ fdB M2 B 39 = some (.int (nI (bBy bl x).length)) ∧ isA (fA M2 B 35) 0 (bBy bl x)) 0 0 19 [(4, .int (nI i)), (3, .int (nI (128 * v + x))), (0, .ref B), (1, .int (nI v)), (2, .int (nI x))] [] z (va_up (va_up M B (.inr (12, fs.set 39 (.int (nI (bBy bl x).length))))) (B + 35) (.inl (1, 4000, .inl g))) := by
  intro k
  induction k using Nat.strongRecOn with
  | ind k ih =>
  intro i g hk hi hg
  have hNx := hN.2.2 x hx
  refine hz_iload (pc := 19) 0 (hz_dec kX12_bring 12 rfl) rfl ?_
  refine hz_aloadn (pc := 21) 2 (hz_dec kX12_bring 13 rfl) rfl ?_
  refine hz_get (pc := 22) (v := .int (nI ((bBy bl x).length))) (hz_dec kX12_bring 14 rfl) fo_X12_422 (hz_mne (va_up_self _ _ _) (by omega)) h8 (by omega) (List.getElem?_set_self (by rw [hF.1]; decide)) ?_
  refine hz_n_ge (pc := 25) (tgt := 82) (hz_dec kX12_bring 15 rfl) (by decide) (by omega) (by omega) (fun h1 => ?_) (fun h1 => ?_)
  · skip
    have e : i = (bBy bl x).length := by omega
    have hf1 : mfr B [39] [35] M (va_up (va_up M B (.inr (12, fs.set 39 (.int (nI (bBy bl x).length))))) (B + 35) (.inl (1, 4000, .inl g))) := ((mfr.rf ⟨fs, hO, hF⟩).upO (k := 39) hO hF rfl rfl).upA (o := 35) rfl (by decide)
    refine hz_vret (pc := 82) (hz_dec kX12_bring 47 rfl) rfl ⟨rfl, rfl, hf1, (mdE.upO hE).upA (by decide), ?_, ?_⟩
    · rw [fdB_of (hz_mne (va_up_self _ _ _) (by omega)), List.getElem?_set_self (by rw [hF.1]; decide)]
    · rw [fA_of (va_up_self _ _ _)]
      intro j hj
      rw [Nat.zero_add]
      exact hg j (by omega)
  · skip
    refine hz_aloadn (pc := 28) 2 (hz_dec kX12_bring 16 rfl) rfl ?_
    refine hz_get (pc := 29) (v := .ref (B + 35)) (hz_dec kX12_bring 17 rfl) fo_X12_116 (hz_mne (va_up_self _ _ _) (by omega)) h8 (by omega) ((md_set hF rfl).2 38 (by decide) (by decide)) ?_
    refine hz_iload (pc := 32) 0 (hz_dec kX12_bring 18 rfl) rfl ?_
    refine hz_aloadn (pc := 34) 2 (hz_dec kX12_bring 19 rfl) rfl ?_
    refine hz_get (pc := 35) (v := .ref (B + 24)) (hz_dec kX12_bring 20 rfl) fo_X12_83 (hz_mne (va_up_self _ _ _) (by omega)) h8 (by omega) ((md_set hF rfl).2 26 (by decide) (by decide)) ?_
    refine hz_iloadn (pc := 38) 1 (hz_dec kX12_bring 21 rfl) rfl ?_
    refine hz_iald (pc := 39) (j := 128 * v + x) (hz_dec kX12_bring 22 rfl) (hz_mne (hz_mne hE.a24 (by omega)) (by omega)) (by omega) (by omega) rfl (by omega) (by decide) ?_
    rcases hNx.2.2.2.2.2 with ⟨hp, hA⟩ | ⟨p, hp, hp2, hA⟩
    · skip
      refine hz_eqi (pc := 40) hp ?_
      have hs2 : (bBy bl x).length ≤ 200 := hsz.resolve_right (fun q => q hp)
      refine hz_if_ge (pc := 40) (tgt := 53) (hz_dec kX12_bring 23 rfl) (by decide) (fun h2 => ?_) (fun h2 => ?_)
      · skip
        exact absurd h2 (by decide)
      · skip
        refine hz_aloadn (pc := 43) 2 (hz_dec kX12_bring 24 rfl) rfl ?_
        refine hz_get (pc := 44) (v := .ref (B + 34)) (hz_dec kX12_bring 25 rfl) fo_X12_113 (hz_mne (va_up_self _ _ _) (by omega)) h8 (by omega) ((md_set hF rfl).2 36 (by decide) (by decide)) ?_
        refine hz_iload (pc := 47) 0 (hz_dec kX12_bring 26 rfl) rfl ?_
        refine hz_bald (pc := 49) (j := i) (hz_dec kX12_bring 27 rfl) (hz_mne (hz_mne hE.a34 (by omega)) (by omega)) (by omega) (by omega) rfl (by omega) (by decide) ?_
        refine hz_goto (pc := 50) (tgt := 75) (hz_dec kX12_bring 28 rfl) (by decide) ?_
        refine hz_bast (pc := 75) (j := i) (hz_dec kX12_bring 44 rfl) (va_up_self _ _ _) (by omega) (by omega) rfl (by omega) (by decide) ?_
        refine hz_mem (pc := 76) (M2 := (va_up (va_up M B (.inr (12, fs.set 39 (.int (nI (bBy bl x).length))))) (B + 35) (.inl (1, 4000, .inl (upd g i (((fA M B 34) i).toInt8.toInt32)))))) (bx_uu _ _ _ _) ?_
        refine hz_incN (pc := 76) (i := 4) (lo2 := [(4, .int (nI (i + 1))), (3, .int (nI (128 * v + x))), (0, .ref B), (1, .int (nI v)), (2, .int (nI x))]) 0 (hz_dec kX12_bring 45 rfl) rfl (by decide) rfl ?_
        refine hz_goto (pc := 79) (tgt := 19) (hz_dec kX12_bring 46 rfl) (by decide) ?_
        refine hz_pick (pc := 19) [0, 1, 2, 3, 4] rfl ?_
        refine ih ((bBy bl x).length - (i + 1)) (by omega) (i + 1) _ rfl (by omega) (fun j hj => ?_)
        simp only [upd]
        split
        · next e => rw [e]; rw [hby34 _ (by omega)]; have q := hA i h1; rw [Nat.zero_add] at q; exact q
        · exact hg j (by omega)
    · skip
      refine hz_eqi (pc := 40) hp ?_
      refine hz_z_ge (pc := 40) (tgt := 53) (hz_dec kX12_bring 23 rfl) (by decide) (by omega) ?_
      refine hz_aloadn (pc := 53) 2 (hz_dec kX12_bring 29 rfl) rfl ?_
      refine hz_get (pc := 54) (v := .ref (B + 51)) (hz_dec kX12_bring 30 rfl) fo_X12_171 (hz_mne (va_up_self _ _ _) (by omega)) h8 (by omega) ((md_set hF rfl).2 58 (by decide) (by decide)) ?_
      refine hz_sipush (pc := 57) (v := nI 12288) (hz_dec kX12_bring 31 rfl) (by decide) ?_
      refine hz_iloadn (pc := 60) 3 (hz_dec kX12_bring 32 rfl) rfl ?_
      refine hz_mulN (pc := 61) (hz_dec kX12_bring 33 rfl) ?_
      refine hz_aloadn (pc := 62) 2 (hz_dec kX12_bring 34 rfl) rfl ?_
      refine hz_get (pc := 63) (v := .ref (B + 24)) (hz_dec kX12_bring 35 rfl) fo_X12_83 (hz_mne (va_up_self _ _ _) (by omega)) h8 (by omega) ((md_set hF rfl).2 26 (by decide) (by decide)) ?_
      refine hz_iloadn (pc := 66) 1 (hz_dec kX12_bring 36 rfl) rfl ?_
      refine hz_iald (pc := 67) (j := 128 * v + x) (hz_dec kX12_bring 37 rfl) (hz_mne (hz_mne hE.a24 (by omega)) (by omega)) (by omega) (by omega) rfl (by omega) (by decide) ?_
      refine hz_eqi (pc := 68) hp ?_
      refine hz_addN (pc := 68) (hz_dec kX12_bring 38 rfl) ?_
      refine hz_iconst (pc := 69) (v := nI 2) (hz_dec kX12_bring 39 rfl) (by decide) ?_
      refine hz_addN (pc := 70) (hz_dec kX12_bring 40 rfl) ?_
      refine hz_iload (pc := 71) 0 (hz_dec kX12_bring 41 rfl) rfl ?_
      refine hz_addN (pc := 73) (hz_dec kX12_bring 42 rfl) ?_
      refine hz_bald (pc := 74) (j := (((12288 * v) + p) + 2) + i) (hz_dec kX12_bring 43 rfl) (hz_mne (hz_mne hE.a51 (by omega)) (by omega)) (by omega) (by omega) rfl (by omega) (by decide) ?_
      refine hz_bast (pc := 75) (j := i) (hz_dec kX12_bring 44 rfl) (va_up_self _ _ _) (by omega) (by omega) rfl (by omega) (by decide) ?_
      refine hz_mem (pc := 76) (M2 := (va_up (va_up M B (.inr (12, fs.set 39 (.int (nI (bBy bl x).length))))) (B + 35) (.inl (1, 4000, .inl (upd g i (((fA M B 51) ((((12288 * v) + p) + 2) + i)).toInt8.toInt32)))))) (bx_uu _ _ _ _) ?_
      refine hz_incN (pc := 76) (i := 4) (lo2 := [(4, .int (nI (i + 1))), (3, .int (nI (128 * v + x))), (0, .ref B), (1, .int (nI v)), (2, .int (nI x))]) 0 (hz_dec kX12_bring 45 rfl) rfl (by decide) rfl ?_
      refine hz_goto (pc := 79) (tgt := 19) (hz_dec kX12_bring 46 rfl) (by decide) ?_
      refine hz_pick (pc := 19) [0, 1, 2, 3, 4] rfl ?_
      refine ih ((bBy bl x).length - (i + 1)) (by omega) (i + 1) _ rfl (by omega) (fun j hj => ?_)
      simp only [upd]
      split
      · next e => rw [e]; rw [hby51 _ (by omega)]; exact hA i h1
      · exact hg j (by omega)
set_option maxHeartbeats 4000000 in
set_option maxRecDepth 100000 in
theorem c_br {κ : hz_C} {z : Nat} {M : hz_M} {B : Nat} (hO_ : md_O M B) (hE : mdE M B) (h8 : 8 ≤ B) (hz : B + 88 ≤ z) {v tip : Nat} {bl : List bk_B} (hv : v < 6) (hnb : bl.length ≤ 128) (hN : nbX (fA M B) (fL M B) v bl tip) {x : Nat} (hx : x < bl.length) (hsz : (bBy bl x).length ≤ 200 ∨ fA M B 24 (128 * v + x) ≠ -1) (hs4 : (bBy bl x).length ≤ 4000) : hz_Mt κ xX12_bring 1 0 0 [.ref B, .int (nI v), .int (nI x)] z M (fun r z2 M2 => none = r ∧ z = z2 ∧ mfr B [39] [35] M M2 ∧ mdE M2 B ∧ fdB M2 B 39 = some (.int (nI (bBy bl x).length)) ∧ isA (fA M2 B 35) 0 (bBy bl x)) := by
  refine hz_ent (lo := [(0, .ref B), (1, .int (nI v)), (2, .int (nI x))]) (by decide) (Nat.le_of_ble_eq_true rfl) rfl ?_
  obtain ⟨fs, hO, hF⟩ := id hO_
  have hNx := hN.2.2 x hx
  refine hz_iloadn (pc := 0) 1 (hz_dec kX12_bring 0 rfl) rfl ?_
  refine hz_iloadn (pc := 1) 2 (hz_dec kX12_bring 1 rfl) rfl ?_
  refine hz_xS (pc := 2) (As := [.int (nI v), .int (nI x)]) (st := []) (hz_dec kX12_bring 2 rfl) co_X12_419 sc_X12_at0 (c_at0) rfl (by decide) ⟨Nat.le_refl _, Nat.le_refl _⟩ (Nat.le_of_ble_eq_true rfl) rfl ?_
  refine hz_istoren (pc := 5) (i := 3) (lo2 := [(3, .int (nI (128 * v + x))), (0, .ref B), (1, .int (nI v)), (2, .int (nI x))]) (hz_dec kX12_bring 3 rfl) rfl (by decide) rfl ?_
  refine hz_aloadn (pc := 6) 1 (hz_dec kX12_bring 4 rfl) rfl ?_
  refine hz_aloadn (pc := 7) 1 (hz_dec kX12_bring 5 rfl) rfl ?_
  refine hz_get (pc := 8) (v := .ref (B + 25)) (hz_dec kX12_bring 6 rfl) fo_X12_86 hO h8 (by omega) (hF.2 27 (by decide) (by decide)) ?_
  refine hz_iloadn (pc := 11) 0 (hz_dec kX12_bring 7 rfl) rfl ?_
  refine hz_iald (pc := 12) (j := 128 * v + x) (hz_dec kX12_bring 8 rfl) hE.a25 (by omega) (by omega) rfl (by omega) (by decide) ?_
  refine hz_eqi (pc := 13) hNx.1 ?_
  refine hz_puti (pc := 13) (hz_dec kX12_bring 9 rfl) fo_X12_422 ft_X12_39 hO h8 (by omega) (by rw [hF.1]; decide) ?_
  refine hz_iconst (pc := 16) (v := nI 0) (hz_dec kX12_bring 10 rfl) (by decide) ?_
  refine hz_istore (pc := 17) (i := 4) (lo2 := [(4, .int (nI 0)), (3, .int (nI (128 * v + x))), (0, .ref B), (1, .int (nI v)), (2, .int (nI x))]) (hz_dec kX12_bring 11 rfl) (by decide) rfl ?_
  refine hz_pick (pc := 19) [0, 1, 2, 3, 4] rfl ?_
  refine hz_mem (pc := 19) (hz_upid (hz_mne hE.a35 (by omega))).symm ?_
  refine hz_bytes (hz_mne (hz_mne hE.a34 (by omega)) (by omega)) (by omega) (by omega) (fun hby34 => hz_bytes (hz_mne (hz_mne hE.a51 (by omega)) (by omega)) (by omega) (by omega) (fun hby51 => ?_))
  exact c_br_l hO_ hE h8 hz hv hnb hN hx hsz hs4 hO hF hby34 hby51 (bBy bl x).length 0 _ rfl (by omega) (fun j hj => absurd hj (by omega))
set_option maxHeartbeats 4000000 in
set_option maxRecDepth 100000 in
theorem c_ap_l {κ : hz_C} {z : Nat} {M : hz_M} {B : Nat} {fs : List Value} (hO : M B = .inr (12, fs)) (hF : md_F B fs) (h8 : 8 ≤ B) (hz : B + 88 ≤ z) {g0 : Nat → Int32} (h54 : M (B + 54) = .inl (1, 34560, .inl g0)) {v : Nat} (hv : v < 6) {po : List po_P} (h16 : po.length < 16) {r n at_ : Nat} {f : Nat → Int32} {t : by_L} (hB : M r = .inl (1, n, .inl f)) (hr8 : 8 ≤ r) (hrz : r < z) (hr54 : r ≠ B + 54) (hn : n < 2 ^ 24) (ht : isA f at_ t) (hat : at_ + t.length ≤ n) (htl : t.length ≤ 358) (hby : ∀ j, j < n → (f j).toInt8.toInt32 = f j) {P : hz_P} (K : ∀ g : Nat → Int32, isA g (360 * (16 * v + po.length)) t → (∀ x, x < 360 * (16 * v + po.length) ∨ 360 * (16 * v + po.length) + 360 ≤ x → g x = g0 x) → P none z (va_up M (B + 54) (.inl (1, 34560, .inl g)))) : ∀ k i g, k = t.length - i → i ≤ t.length → (∀ j, j < i → g (360 * (16 * v + po.length) + j) = lf t j) → (∀ x, x < 360 * (16 * v + po.length) ∨ 360 * (16 * v + po.length) + 360 ≤ x → g x = g0 x) → hz_W κ xX12_addToPool 4 0 0 P 0 0 61 [(6, .int (nI i)), (5, .int (nI (16 * v + po.length))), (4, .int (nI (t.length))), (0, .ref B), (1, .int (nI v)), (2, .ref r), (3, .int (nI at_))] [] z (va_up M (B + 54) (.inl (1, 34560, .inl g))) := by
  intro k
  induction k using Nat.strongRecOn with
  | ind k ih =>
  intro i g hk hi h1 h2
  refine hz_iload (pc := 61) 0 (hz_dec kX12_addToPool 39 rfl) rfl ?_
  refine hz_iload (pc := 63) 2 (hz_dec kX12_addToPool 40 rfl) rfl ?_
  refine hz_n_ge (pc := 65) (tgt := 94) (hz_dec kX12_addToPool 41 rfl) (by decide) (by omega) (by omega) (fun h9 => ?_) (fun h9 => ?_)
  · skip
    have e : i = t.length := by omega
    exact hz_vret (pc := 94) (hz_dec kX12_addToPool 57 rfl) rfl (K g (fun j hj => h1 j (by omega)) h2)
  · skip
    refine hz_aloadn (pc := 68) 3 (hz_dec kX12_addToPool 42 rfl) rfl ?_
    refine hz_get (pc := 69) (v := .ref (B + 54)) (hz_dec kX12_addToPool 43 rfl) fo_X12_181 (hz_mne hO (by omega)) h8 (by omega) (hF.2 63 (by decide) (by decide)) ?_
    refine hz_sipush (pc := 72) (v := nI 360) (hz_dec kX12_addToPool 44 rfl) (by decide) ?_
    refine hz_iload (pc := 75) 1 (hz_dec kX12_addToPool 45 rfl) rfl ?_
    refine hz_mulN (pc := 77) (hz_dec kX12_addToPool 46 rfl) ?_
    refine hz_iload (pc := 78) 0 (hz_dec kX12_addToPool 47 rfl) rfl ?_
    refine hz_addN (pc := 80) (hz_dec kX12_addToPool 48 rfl) ?_
    refine hz_aloadn (pc := 81) 5 (hz_dec kX12_addToPool 49 rfl) rfl ?_
    refine hz_iloadn (pc := 82) 6 (hz_dec kX12_addToPool 50 rfl) rfl ?_
    refine hz_iload (pc := 83) 0 (hz_dec kX12_addToPool 51 rfl) rfl ?_
    refine hz_addN (pc := 85) (hz_dec kX12_addToPool 52 rfl) ?_
    refine hz_bald (pc := 86) (j := at_ + i) (hz_dec kX12_addToPool 53 rfl) (hz_mne hB hr54) hr8 hrz rfl (by omega) (by omega) ?_
    refine hz_bast (pc := 87) (j := (360 * (16 * v + po.length)) + i) (hz_dec kX12_addToPool 54 rfl) (va_up_self _ _ _) (by omega) (by omega) rfl (by omega) (by decide) ?_
    refine hz_mem (pc := 88) (M2 := (va_up M (B + 54) (.inl (1, 34560, .inl (upd g ((360 * (16 * v + po.length)) + i) ((f (at_ + i)).toInt8.toInt32)))))) (bx_uu _ _ _ _) ?_
    refine hz_incN (pc := 88) (i := 6) (lo2 := [(6, .int (nI (i + 1))), (5, .int (nI (16 * v + po.length))), (4, .int (nI (t.length))), (0, .ref B), (1, .int (nI v)), (2, .ref r), (3, .int (nI at_))]) 0 (hz_dec kX12_addToPool 55 rfl) rfl (by decide) rfl ?_
    refine hz_goto (pc := 91) (tgt := 61) (hz_dec kX12_addToPool 56 rfl) (by decide) ?_
    refine hz_pick (pc := 61) [0, 1, 2, 3, 4, 5, 6] rfl ?_
    refine ih (t.length - (i + 1)) (by omega) (i + 1) _ rfl (by omega) (fun j hj => ?_) (fun x hx => ?_)
    · simp only [upd]
      split
      · next e => rw [show j = i by omega, hby _ (by omega)]; exact ht i h9
      · exact h1 j (by omega)
    · simp only [upd]
      rw [if_neg (by omega)]
      exact h2 x hx
set_option maxHeartbeats 4000000 in
set_option maxRecDepth 100000 in
theorem c_aPool {κ : hz_C} {z : Nat} {M : hz_M} {B : Nat} (hk0 : md_k B M z) (hE : mdE M B) {v : Nat} (hv : v < 6) {po : List po_P} (hp : poX (fA M B) (fL M B) v po) (h16 : po.length < 16) {r n at_ : Nat} {f : Nat → Int32} {t : by_L} (hB : M r = .inl (1, n, .inl f)) (hr8 : 8 ≤ r) (hrz : r < z) (hro : ∀ o ∈ (0 :: [3, 4, 5, 54, 55, 56, 57, 58]), r ≠ B + o) (hn : n < 2 ^ 24) (ht : isA f at_ t) (hat : at_ + t.length ≤ n) (hW : txW t) (hpl9 : ∀ k, k < po.length → (poL po k).length ≤ 360) {fe : Int64} (h59 : fdB M B 59 = some (.long fe)) : hz_Mt κ xX12_addToPool 4 0 0 [.ref B, .int (nI v), .ref r, .int (nI at_), .int (nI t.length)] z M (fun rr z2 M2 => none = rr ∧ z = z2 ∧ mfr B [] [3, 4, 5, 54, 55, 56, 57, 58] M M2 ∧ mdE M2 B ∧ poX (fA M2 B) (fL M2 B) v (po ++ [(t, fe)]) ∧ ∀ w po2, w < 6 → w ≠ v → po2.length ≤ 16 → (∀ k, k < po2.length → (poL po2 k).length ≤ 360) → poX (fA M B) (fL M B) w po2 → poX (fA M2 B) (fL M2 B) w po2) := by
  refine hz_ent (lo := [(0, .ref B), (1, .int (nI v)), (2, .ref r), (3, .int (nI at_)), (4, .int (nI (t.length)))]) (by decide) (Nat.le_of_ble_eq_true rfl) rfl ?_
  obtain ⟨⟨fs, hO, hF⟩, -, -, h8, hz⟩ := id hk0
  have tl := txW_len hW
  have g59 : fs[59]? = some (.long fe) := (fdB_of hO 59).symm.trans h59
  refine hz_bipush (pc := 0) (v := nI 16) (hz_dec kX12_addToPool 0 rfl) (by decide) ?_
  refine hz_iloadn (pc := 2) 1 (hz_dec kX12_addToPool 1 rfl) rfl ?_
  refine hz_mulN (pc := 3) (hz_dec kX12_addToPool 2 rfl) ?_
  refine hz_aloadn (pc := 4) 0 (hz_dec kX12_addToPool 3 rfl) rfl ?_
  refine hz_get (pc := 5) (v := .ref (B + 58)) (hz_dec kX12_addToPool 4 rfl) fo_X12_193 hO h8 (by omega) (hF.2 67 (by decide) (by decide)) ?_
  refine hz_iloadn (pc := 8) 1 (hz_dec kX12_addToPool 5 rfl) rfl ?_
  refine hz_iald (pc := 9) (j := v) (hz_dec kX12_addToPool 6 rfl) hE.a58 (by omega) (by omega) rfl (by omega) (by decide) ?_
  refine hz_eqi (pc := 10) hp.1 ?_
  refine hz_addN (pc := 10) (hz_dec kX12_addToPool 7 rfl) ?_
  refine hz_istore (pc := 11) (i := 5) (lo2 := [(5, .int (nI ((16 * v) + (po.length)))), (0, .ref B), (1, .int (nI v)), (2, .ref r), (3, .int (nI at_)), (4, .int (nI (t.length)))]) (hz_dec kX12_addToPool 8 rfl) (by decide) rfl ?_
  refine hz_aloadn (pc := 13) 1 (hz_dec kX12_addToPool 9 rfl) rfl ?_
  refine hz_get (pc := 14) (v := .ref (B + 58)) (hz_dec kX12_addToPool 10 rfl) fo_X12_193 hO h8 (by omega) (hF.2 67 (by decide) (by decide)) ?_
  refine hz_iloadn (pc := 17) 2 (hz_dec kX12_addToPool 11 rfl) rfl ?_
  refine hz_dup2 (pc := 18) (hz_dec kX12_addToPool 12 rfl) rfl rfl ?_
  refine hz_iald (pc := 19) (j := v) (hz_dec kX12_addToPool 13 rfl) hE.a58 (by omega) (by omega) rfl (by omega) (by decide) ?_
  refine hz_eqi (pc := 20) hp.1 ?_
  refine hz_iconst (pc := 20) (v := nI 1) (hz_dec kX12_addToPool 14 rfl) (by decide) ?_
  refine hz_addN (pc := 21) (hz_dec kX12_addToPool 15 rfl) ?_
  refine hz_iast (pc := 22) (j := v) (hz_dec kX12_addToPool 16 rfl) hE.a58 (by omega) (by omega) rfl (by omega) (by decide) ?_
  refine hz_aloadn (pc := 23) 1 (hz_dec kX12_addToPool 17 rfl) rfl ?_
  refine hz_get (pc := 24) (v := .ref (B + 55)) (hz_dec kX12_addToPool 18 rfl) fo_X12_184 (hz_mne hO (by omega)) h8 (by omega) (hF.2 64 (by decide) (by decide)) ?_
  refine hz_iload (pc := 27) 0 (hz_dec kX12_addToPool 19 rfl) rfl ?_
  refine hz_iload (pc := 29) 5 (hz_dec kX12_addToPool 20 rfl) rfl ?_
  refine hz_iast (pc := 31) (j := (16 * v) + (po.length)) (hz_dec kX12_addToPool 21 rfl) (hz_mne hE.a55 (by omega)) (by omega) (by omega) rfl (by omega) (by decide) ?_
  refine hz_aloadn (pc := 32) 1 (hz_dec kX12_addToPool 22 rfl) rfl ?_
  refine hz_get (pc := 33) (v := .ref (B + 57)) (hz_dec kX12_addToPool 23 rfl) fo_X12_190 (hz_mne (hz_mne hO (by omega)) (by omega)) h8 (by omega) (hF.2 66 (by decide) (by decide)) ?_
  refine hz_iload (pc := 36) 0 (hz_dec kX12_addToPool 24 rfl) rfl ?_
  refine hz_aloadn (pc := 38) 1 (hz_dec kX12_addToPool 25 rfl) rfl ?_
  refine hz_get (pc := 39) (v := .long fe) (hz_dec kX12_addToPool 26 rfl) fo_X12_523 (hz_mne (hz_mne hO (by omega)) (by omega)) h8 (by omega) g59 ?_
  refine hz_last (pc := 42) (j := (16 * v) + (po.length)) (hz_dec kX12_addToPool 27 rfl) (hz_mne (hz_mne hE.a57 (by omega)) (by omega)) (by omega) (by omega) rfl (by omega) (by decide) ?_
  refine hz_aloadn (pc := 43) 1 (hz_dec kX12_addToPool 28 rfl) rfl ?_
  refine hz_get (pc := 44) (v := .ref (B + 56)) (hz_dec kX12_addToPool 29 rfl) fo_X12_187 (hz_mne (hz_mne (hz_mne hO (by omega)) (by omega)) (by omega)) h8 (by omega) (hF.2 65 (by decide) (by decide)) ?_
  refine hz_iload (pc := 47) 0 (hz_dec kX12_addToPool 30 rfl) rfl ?_
  refine hz_aloadn (pc := 49) 1 (hz_dec kX12_addToPool 31 rfl) rfl ?_
  refine hz_aloadn (pc := 50) 3 (hz_dec kX12_addToPool 32 rfl) rfl ?_
  refine hz_iloadn (pc := 51) 4 (hz_dec kX12_addToPool 33 rfl) rfl ?_
  refine hz_iload (pc := 52) 5 (hz_dec kX12_addToPool 34 rfl) rfl ?_
  have hf1 : mfr B [] [55, 57, 58] M (va_up (va_up (va_up M (B + 58) (.inl (0, 6, .inl (upd (fA M B 58) v ((nI ((po.length) + 1))))))) (B + 55) (.inl (0, 96, .inl (upd (fA M B 55) ((16 * v) + (po.length)) ((nI (t.length))))))) (B + 57) (.inl (2, 96, .inr (.inl (vp_updL (fL M B 57) ((16 * v) + (po.length)) (fe)))))) := (((mfr.rf ⟨fs, hO, hF⟩).upA (o := 58) rfl (by decide)).upA (o := 55) rfl (by decide)).upA (o := 57) rfl (by decide)
  have hE1 : mdE (va_up (va_up (va_up M (B + 58) (.inl (0, 6, .inl (upd (fA M B 58) v ((nI ((po.length) + 1))))))) (B + 55) (.inl (0, 96, .inl (upd (fA M B 55) ((16 * v) + (po.length)) ((nI (t.length))))))) (B + 57) (.inl (2, 96, .inr (.inl (vp_updL (fL M B 57) ((16 * v) + (po.length)) (fe)))))) B := ((hE.upA (by decide)).upA (by decide)).upL (by decide)
  have p54 : (va_up (va_up (va_up M (B + 58) (.inl (0, 6, .inl (upd (fA M B 58) v ((nI ((po.length) + 1))))))) (B + 55) (.inl (0, 96, .inl (upd (fA M B 55) ((16 * v) + (po.length)) ((nI (t.length))))))) (B + 57) (.inl (2, 96, .inr (.inl (vp_updL (fL M B 57) ((16 * v) + (po.length)) (fe)))))) (B + 54) = .inl (1, 34560, .inl (fA M B 54)) := (hz_mne (hz_mne (hz_mne hE.a54 (by omega)) (by omega)) (by omega))
  have p55 : (va_up (va_up (va_up M (B + 58) (.inl (0, 6, .inl (upd (fA M B 58) v ((nI ((po.length) + 1))))))) (B + 55) (.inl (0, 96, .inl (upd (fA M B 55) ((16 * v) + (po.length)) ((nI (t.length))))))) (B + 57) (.inl (2, 96, .inr (.inl (vp_updL (fL M B 57) ((16 * v) + (po.length)) (fe)))))) (B + 55) = .inl (0, 96, .inl (upd (fA M B 55) ((16 * v) + (po.length)) ((nI (t.length))))) := (hz_mne (va_up_self _ _ _) (by omega))
  have p56 : (va_up (va_up (va_up M (B + 58) (.inl (0, 6, .inl (upd (fA M B 58) v ((nI ((po.length) + 1))))))) (B + 55) (.inl (0, 96, .inl (upd (fA M B 55) ((16 * v) + (po.length)) ((nI (t.length))))))) (B + 57) (.inl (2, 96, .inr (.inl (vp_updL (fL M B 57) ((16 * v) + (po.length)) (fe)))))) (B + 56) = .inl (2, 96, .inr (.inl (fL M B 56))) := (hz_mne (hz_mne (hz_mne hE.a56 (by omega)) (by omega)) (by omega))
  have p57 : (va_up (va_up (va_up M (B + 58) (.inl (0, 6, .inl (upd (fA M B 58) v ((nI ((po.length) + 1))))))) (B + 55) (.inl (0, 96, .inl (upd (fA M B 55) ((16 * v) + (po.length)) ((nI (t.length))))))) (B + 57) (.inl (2, 96, .inr (.inl (vp_updL (fL M B 57) ((16 * v) + (po.length)) (fe)))))) (B + 57) = .inl (2, 96, .inr (.inl (vp_updL (fL M B 57) ((16 * v) + (po.length)) (fe)))) := (va_up_self _ _ _)
  have p58 : (va_up (va_up (va_up M (B + 58) (.inl (0, 6, .inl (upd (fA M B 58) v ((nI ((po.length) + 1))))))) (B + 55) (.inl (0, 96, .inl (upd (fA M B 55) ((16 * v) + (po.length)) ((nI (t.length))))))) (B + 57) (.inl (2, 96, .inr (.inl (vp_updL (fL M B 57) ((16 * v) + (po.length)) (fe)))))) (B + 58) = .inl (0, 6, .inl (upd (fA M B 58) v ((nI ((po.length) + 1))))) := (hz_mne (hz_mne (va_up_self _ _ _) (by omega)) (by omega))
  generalize hM1 : (va_up (va_up (va_up M (B + 58) (.inl (0, 6, .inl (upd (fA M B 58) v ((nI ((po.length) + 1))))))) (B + 55) (.inl (0, 96, .inl (upd (fA M B 55) ((16 * v) + (po.length)) ((nI (t.length))))))) (B + 57) (.inl (2, 96, .inr (.inl (vp_updL (fL M B 57) ((16 * v) + (po.length)) (fe)))))) = M1 at *
  have hk1 : md_k B M1 z := hk0.mf hf1 rfl rfl
  obtain ⟨fs1, hO1, hF1⟩ := id hf1.2.1
  have hB1 : M1 r = .inl (1, n, .inl f) := (hf1.1 r (fun o ho => hro o (by revert ho; revert o; decide))).trans hB
  refine hz_callV (pc := 54) (a := B) (As := [.ref r, .int (nI at_), .int (nI (t.length))]) (st := [.int (nI ((16 * v) + (po.length))), .ref (B + 56)]) (hz_dec kX12_addToPool 35 rfl) co_X12_338 im_X12_shortOf se_X12_shortOf rfl hO1 h8 (by omega) (c_shortOf (n := t.length) hk1 hE1.s hB1 hr8 hrz (by omega) (by omega)) rfl (by decide) ⟨Nat.le_refl _, Nat.le_refl _⟩ (Nat.le_of_ble_eq_true rfl) rfl (fun r9 z9 M2 hp9 => ?_)
  obtain ⟨rfl, rfl, hf2, hs2, -⟩ := hp9
  refine hz_eql (pc := 57) (show _ = idS t by rw [shS_of ht rfl]; rfl) ?_
  have hf2m : mfr B [] [3, 4, 5] M1 M2 := mfr.ofl ⟨fs1, hO1, hF1⟩ hf2 rfl
  have hE2 : mdE M2 B := hE1.hs hf2m hs2 rfl
  obtain ⟨fs2, hO2, hF2⟩ := id hf2m.2.1
  have q54 := (hf2m.at 54 (by decide) rfl).trans p54
  have q55 := (hf2m.at 55 (by decide) rfl).trans p55
  have q56 := (hf2m.at 56 (by decide) rfl).trans p56
  have q57 := (hf2m.at 57 (by decide) rfl).trans p57
  have q58 := (hf2m.at 58 (by decide) rfl).trans p58
  have hB2 : M2 r = .inl (1, n, .inl f) := (hf2m.1 r (fun o ho => hro o (by revert ho; revert o; decide))).trans hB1
  refine hz_last (pc := 57) (j := (16 * v) + (po.length)) (hz_dec kX12_addToPool 36 rfl) q56 (by omega) (by omega) rfl (by omega) (by decide) ?_
  refine hz_iconst (pc := 58) (v := nI 0) (hz_dec kX12_addToPool 37 rfl) (by decide) ?_
  refine hz_istore (pc := 59) (i := 6) (lo2 := [(6, .int (nI 0)), (5, .int (nI ((16 * v) + (po.length)))), (0, .ref B), (1, .int (nI v)), (2, .ref r), (3, .int (nI at_)), (4, .int (nI (t.length)))]) (hz_dec kX12_addToPool 38 rfl) (by decide) rfl ?_
  refine hz_pick (pc := 61) [0, 1, 6, 2, 3, 4, 5] rfl ?_
  have hf3 : mfr B [] [56] M2 (va_up M2 (B + 56) (.inl (2, 96, .inr (.inl (vp_updL (fL M B 56) ((16 * v) + (po.length)) (idS t)))))) := (mfr.rf ⟨fs2, hO2, hF2⟩).upA (o := 56) rfl (by decide)
  have hE3 : mdE (va_up M2 (B + 56) (.inl (2, 96, .inr (.inl (vp_updL (fL M B 56) ((16 * v) + (po.length)) (idS t)))))) B := hE2.upL (by decide)
  have r54 := (hf3.at 54 (by decide) rfl).trans q54
  have r55 := (hf3.at 55 (by decide) rfl).trans q55
  have r57 := (hf3.at 57 (by decide) rfl).trans q57
  have r58 := (hf3.at 58 (by decide) rfl).trans q58
  have r56 : (va_up M2 (B + 56) (.inl (2, 96, .inr (.inl (vp_updL (fL M B 56) ((16 * v) + (po.length)) (idS t)))))) (B + 56) = .inl (2, 96, .inr (.inl (vp_updL (fL M B 56) ((16 * v) + (po.length)) (idS t)))) := va_up_self _ _ _
  have hB3 := (hf3.1 r (fun o ho => hro o (by revert ho; revert o; decide))).trans hB2
  obtain ⟨fs3, hO3, hF3⟩ := id hf3.2.1
  generalize hM3 : (va_up M2 (B + 56) (.inl (2, 96, .inr (.inl (vp_updL (fL M B 56) ((16 * v) + (po.length)) (idS t)))))) = M3 at *
  refine hz_bytes hB3 hr8 hrz (fun hby => ?_)
  refine hz_mem (pc := 61) (hz_upid r54).symm ?_
  refine c_ap_l hO3 hF3 h8 hz r54 hv h16 hB3 hr8 hrz (hro 54 (by decide)) hn ht hat (by omega) hby (fun g hgA hgl => ?_) t.length 0 _ rfl (by omega) (fun j hj => absurd hj (by omega)) (fun x _ => rfl)
  have hf4 : mfr B [] [54] M3 (va_up M3 (B + 54) (.inl (1, 34560, .inl g))) := (mfr.rf ⟨fs3, hO3, hF3⟩).upA (o := 54) rfl (by decide)
  have s55 := (hf4.at 55 (by decide) rfl).trans r55
  have s56 := (hf4.at 56 (by decide) rfl).trans r56
  have s57 := (hf4.at 57 (by decide) rfl).trans r57
  have s58 := (hf4.at 58 (by decide) rfl).trans r58
  have s54 : (va_up M3 (B + 54) (.inl (1, 34560, .inl g))) (B + 54) = .inl (1, 34560, .inl g) := va_up_self _ _ _
  refine ⟨rfl, rfl, (((hf1.mono rfl rfl).tr (hf2m.mono rfl rfl)).tr (hf3.mono rfl rfl)).tr (hf4.mono rfl rfl), hE3.upA (by decide), ⟨?_, fun k hk => ?_⟩, fun u po2 hu hne hpl hpb hp2 => ⟨?_, fun k hk => ?_⟩⟩
  · rw [fA_of s58, List.length_append]; simp only [upd]; exact if_pos trivial
  · rw [fA_of s55, fL_of s56, fL_of s57, fA_of s54]
    rw [List.length_append] at hk
    have hk2 : k < po.length + 1 := hk
    rcases (show k = po.length ∨ k < po.length by omega) with e | c
    · rw [e, poL_last.1, poL_last.2]; simp only [upd, vp_updL]; exact ⟨if_pos trivial, if_pos trivial, if_pos trivial, hgA⟩
    · rw [(poL_app c).1, (poL_app c).2]; simp only [upd, vp_updL, if_neg (show ¬ 16 * v + k = 16 * v + po.length by omega)]
      obtain ⟨a1, a2, a3, a4⟩ := hp.2 k c
      exact ⟨a1, a2, a3, isA_c a4 (fun j hj => hgl _ (by have q := hpl9 k c; omega))⟩
  · rw [fA_of s58]; simp only [upd]; rw [if_neg hne]; exact hp2.1
  · rw [fA_of s55, fL_of s56, fL_of s57, fA_of s54]; simp only [upd, vp_updL, if_neg (show ¬ 16 * u + k = 16 * v + po.length by omega)]
    obtain ⟨a1, a2, a3, a4⟩ := hp2.2 k hk
    exact ⟨a1, a2, a3, isA_c a4 (fun j hj => hgl _ (by have q := hpb k hk; omega))⟩
