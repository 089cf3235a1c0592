/-! the reference: is it signed, is it an amount -/
def sgA (f : Nat → Int32) (at_ : Nat) (dg : Nat → Nat) : Int64 := ky_ad (fun i => ky_ss (bn_num f (at_ + 8 * i) 8) i (dg i) (15 - dg i))
set_option maxHeartbeats 4000000 in
set_option maxRecDepth 100000 in
theorem l_isSig {κ : hz_C} {z : Nat} {M : hz_M} {B : Nat} (hk : md_k B M z) {r nb at_ : Nat} {f : Nat → Int32} (hR : M r = .inl (1, nb, .inl f)) (hr8 : 8 ≤ r) (hrz : r < z) (hnb : nb < 2 ^ 24) (hrr : at_ + 64 ≤ nb) (hro : ∀ o ∈ [3, 4, 5, 6, 8], r ≠ B + o) {q : Nat → Int32} {dg : Nat → Nat} (hq : M (B + 9) = .inl (0, 8, .inl q)) (hqd : ∀ j, j < 8 → q j = nI (dg j) ∧ dg j ≤ 15) {P : hz_P} {ad : Int64} (K : ∀ M1, frl B [3, 4, 5, 6, 8] M M1 → md_s B M1 → (∃ en : Nat → Int64, M1 (B + 8) = .inl (2, 8, .inr (.inl en)) ∧ ∀ j, j < 8 → en j = ky_ss (bn_num f (at_ + 8 * j) 8) j (dg j) (15 - dg j)) → hz_W κ xX12_isSigned 6 0 0 P 0 0 49 [(0, .ref B), (3, .long ad)] [] z M1) : ∀ k i M1, k = 8 - i → i ≤ 8 → frl B [3, 4, 5, 6, 8] M M1 → md_s B M1 → (∃ en : Nat → Int64, M1 (B + 8) = .inl (2, 8, .inr (.inl en)) ∧ ∀ j, j < i → en j = ky_ss (bn_num f (at_ + 8 * j) 8) j (dg j) (15 - dg j)) → hz_W κ xX12_isSigned 6 0 0 P 0 0 3 [(5, .int (nI i)), (0, .ref B), (1, .ref r), (2, .int (nI at_)), (3, .long ad)] [] z M1 := by
  intro k
  induction k using Nat.strongRecOn with
  | ind k ih =>
  intro i M1 hk2 hi hf1 hs1 hE
  have hk1 : md_k B M1 z := hk.fr hf1 rfl rfl rfl
  obtain ⟨⟨fs, hO, hF⟩, -, -, h8, hz⟩ := id hk1
  obtain ⟨en, hen, hec⟩ := id hE
  have hR1 : M1 r = .inl (1, nb, .inl f) := (hf1 r hro).trans hR
  have hq1 : M1 (B + 9) = .inl (0, 8, .inl q) := (hf1.at 9 rfl).trans hq
  refine hz_iload (pc := 3) 0 (hz_dec kX12_isSigned 2 rfl) rfl ?_
  refine hz_bipush (pc := 5) (v := nI 8) (hz_dec kX12_isSigned 3 rfl) (by decide) ?_
  refine hz_n_ge (pc := 7) (tgt := 49) (hz_dec kX12_isSigned 4 rfl) (by decide) (by omega) (by omega) (fun h1 => ?_) (fun h1 => ?_)
  · skip
    have e : i = 8 := by omega
    subst e
    refine hz_pick (pc := 49) [1, 4] rfl ?_
    exact K M1 hf1 hs1 hE
  · skip
    obtain ⟨hq2, hd15⟩ := hqd i h1
    refine hz_aloadn (pc := 10) 1 (hz_dec kX12_isSigned 5 rfl) rfl ?_
    refine hz_get (pc := 11) (v := .ref (B + 8)) (hz_dec kX12_isSigned 6 rfl) fo_X12_32 hO h8 (by omega) (hF.2 9 (by decide) (by decide)) ?_
    refine hz_iload (pc := 14) 0 (hz_dec kX12_isSigned 7 rfl) rfl ?_
    refine hz_aloadn (pc := 16) 1 (hz_dec kX12_isSigned 8 rfl) rfl ?_
    refine hz_aloadn (pc := 17) 2 (hz_dec kX12_isSigned 9 rfl) rfl ?_
    refine hz_iloadn (pc := 18) 3 (hz_dec kX12_isSigned 10 rfl) rfl ?_
    refine hz_bipush (pc := 19) (v := nI 8) (hz_dec kX12_isSigned 11 rfl) (by decide) ?_
    refine hz_iload (pc := 21) 0 (hz_dec kX12_isSigned 12 rfl) rfl ?_
    refine hz_mulN (pc := 23) (hz_dec kX12_isSigned 13 rfl) ?_
    refine hz_addN (pc := 24) (hz_dec kX12_isSigned 14 rfl) ?_
    refine hz_xS (pc := 25) (As := [.ref r, .int (nI (at_ + (8 * i)))]) (st := [.ref B, .int (nI i), .ref (B + 8)]) (hz_dec kX12_isSigned 15 rfl) co_X12_330 sc_X12_longAt (c_longAt hR1 hr8 hrz (by omega) (by omega)) rfl (by decide) ⟨Nat.le_refl _, Nat.le_refl _⟩ (Nat.le_of_ble_eq_true rfl) rfl ?_
    refine hz_iload (pc := 28) 0 (hz_dec kX12_isSigned 16 rfl) rfl ?_
    refine hz_aloadn (pc := 30) 1 (hz_dec kX12_isSigned 17 rfl) rfl ?_
    refine hz_get (pc := 31) (v := .ref (B + 9)) (hz_dec kX12_isSigned 18 rfl) fo_X12_36 hO h8 (by omega) (hF.2 10 (by decide) (by decide)) ?_
    refine hz_iload (pc := 34) 0 (hz_dec kX12_isSigned 19 rfl) rfl ?_
    refine hz_iald (pc := 36) (j := i) (hz_dec kX12_isSigned 20 rfl) hq1 (by omega) (by omega) rfl (by omega) (by decide) ?_
    refine hz_eqi (pc := 37) hq2 ?_
    refine hz_bipush (pc := 37) (v := nI 15) (hz_dec kX12_isSigned 21 rfl) (by decide) ?_
    refine hz_callV (pc := 39) (a := B) (As := [.long (bn_num f (at_ + 8 * i) 8), .int (nI i), .int (nI (dg i)), .int (nI 15)]) (st := [.int (nI i), .ref (B + 8)]) (hz_dec kX12_isSigned 22 rfl) co_X12_350 im_X12_partSteps se_X12_partSteps rfl hO h8 (by omega) (c_partSteps (a := dg i) (b := 15) hk1 hs1 h1 hd15 (by decide)) rfl (by decide) ⟨Nat.le_refl _, Nat.le_refl _⟩ (Nat.le_of_ble_eq_true rfl) rfl (fun r9 z9 M3 hp9 => ?_)
    obtain ⟨rfl, rfl, hf3, hs3, -⟩ := hp9
    have he3 : M3 (B + 8) = .inl (2, 8, .inr (.inl en)) := (hf3.at 8 rfl).trans hen
    refine hz_last (pc := 42) (j := i) (hz_dec kX12_isSigned 23 rfl) he3 (by omega) (by omega) rfl (by omega) (by decide) ?_
    refine hz_incN (pc := 43) (i := 5) (lo2 := [(5, .int (nI (i + 1))), (0, .ref B), (1, .ref r), (2, .int (nI at_)), (3, .long ad)]) 0 (hz_dec kX12_isSigned 24 rfl) rfl (by decide) rfl ?_
    refine hz_goto (pc := 46) (tgt := 3) (hz_dec kX12_isSigned 25 rfl) (by decide) ?_
    refine hz_pick (pc := 3) [0, 1, 2, 3, 4] rfl ?_
    obtain ⟨⟨a3, b3⟩, ⟨a4, b4⟩, ⟨a5, b5⟩, ⟨a6, b6⟩, ⟨a7, b7⟩, -, ⟨a9, b9⟩⟩ := hs3
    refine ih (8 - (i + 1)) (by omega) (i + 1) _ rfl (by omega) ((hf1.tr (os3 := [3, 4, 5, 6, 8]) hf3 rfl rfl).tr (frl.up (os := [8]) rfl) rfl rfl) ⟨⟨a3, hz_mne b3 (by omega)⟩, ⟨a4, hz_mne b4 (by omega)⟩, ⟨a5, hz_mne b5 (by omega)⟩, ⟨a6, hz_mne b6 (by omega)⟩, ⟨a7, hz_mne b7 (by omega)⟩, ⟨_, va_up_self _ _ _⟩, ⟨a9, hz_mne b9 (by omega)⟩⟩ ⟨_, va_up_self _ _ _, fun j hj => ?_⟩
    simp only [vp_updL]
    split
    · next e => subst e; rfl
    · exact hec j (by omega)
set_option maxHeartbeats 4000000 in
set_option maxRecDepth 100000 in
theorem c_isSig {κ : hz_C} {z : Nat} {M : hz_M} {B : Nat} (hk : md_k B M z) (hsc : md_s B M) {r nb at_ : Nat} {f : Nat → Int32} (hR : M r = .inl (1, nb, .inl f)) (hr8 : 8 ≤ r) (hrz : r < z) (hnb : nb < 2 ^ 24) (hrr : at_ + 64 ≤ nb) (hro : ∀ o ∈ [3, 4, 5, 6, 8], r ≠ B + o) {q : Nat → Int32} {dg : Nat → Nat} (hq : M (B + 9) = .inl (0, 8, .inl q)) (hqd : ∀ j, j < 8 → q j = nI (dg j) ∧ dg j ≤ 15) {ad : Int64} : hz_Mt κ xX12_isSigned 6 0 0 [.ref B, .ref r, .int (nI at_), .long ad] z M (md_hF M z B [3, 4, 5, 6, 8] (some (.int (hz_b (decide (sgA f at_ dg = ad))))) (fun _ => True)) := by
  refine hz_ent (lo := [(0, .ref B), (1, .ref r), (2, .int (nI at_)), (3, .long ad)]) (by decide) (Nat.le_of_ble_eq_true rfl) rfl ?_
  obtain ⟨⟨fs, hO, hF⟩, -, -, h8, hz⟩ := id hk
  obtain ⟨-, -, -, -, -, ⟨e8, h88⟩, -⟩ := id hsc
  refine hz_iconst (pc := 0) (v := nI 0) (hz_dec kX12_isSigned 0 rfl) (by decide) ?_
  refine hz_istore (pc := 1) (i := 5) (lo2 := [(5, .int (nI 0)), (0, .ref B), (1, .ref r), (2, .int (nI at_)), (3, .long ad)]) (hz_dec kX12_isSigned 1 rfl) (by decide) rfl ?_
  refine hz_pick (pc := 3) [0, 1, 2, 3, 4] rfl ?_
  refine l_isSig hk hR hr8 hrz hnb hrr hro hq hqd (fun M1 hf1 hs1 hE => ?_) 8 0 M rfl (by omega) frl.rf hsc ⟨e8, h88, fun j hj => absurd hj (by omega)⟩
  obtain ⟨en, hen, hec⟩ := hE
  have hk1 : md_k B M1 z := hk.fr hf1 rfl rfl rfl
  refine hz_aloadn (pc := 49) 0 (hz_dec kX12_isSigned 26 rfl) rfl ?_
  refine hz_callV (pc := 50) (a := B) (As := []) (st := []) (hz_dec kX12_isSigned 27 rfl) co_X12_354 im_X12_addressOfEnds se_X12_addressOfEnds rfl ((hf1.at0 rfl).trans hO) h8 (by omega) (c_adEnds hk1 hs1 hen) rfl (by decide) ⟨Nat.le_refl _, Nat.le_refl _⟩ (Nat.le_of_ble_eq_true rfl) rfl (fun r9 z9 M2 hp9 => ?_)
  obtain ⟨rfl, rfl, hf2, hs2, -⟩ := hp9
  have eA : ky_ad en = sgA f at_ dg := ky_ad_c hec
  refine hz_lloadn (pc := 53) 1 (hz_dec kX12_isSigned 28 rfl) rfl ?_
  refine hz_lcmp (pc := 54) (hz_dec kX12_isSigned 29 rfl) ?_
  refine hz_if_ne (pc := 55) (tgt := 62) (hz_dec kX12_isSigned 30 rfl) (by decide) (fun h2 => ?_) (fun h2 => ?_)
  · skip
    refine hz_iconst (pc := 62) (v := nI 0) (hz_dec kX12_isSigned 33 rfl) (by decide) ?_
    exact hz_zret (pc := 63) (hz_dec kX12_isSigned 34 rfl) rfl rfl ⟨by rw [show decide (sgA f at_ dg = ad) = false from decide_eq_false (fun e => h2 ((lg_cmp_eq _ _).mpr (eA.trans e)))]; rfl, rfl, hf1.tr hf2 rfl rfl, hs2, trivial⟩
  · skip
    have h3 : ky_ad en = ad := (lg_cmp_eq _ _).mp h2
    refine hz_iconst (pc := 58) (v := nI 1) (hz_dec kX12_isSigned 31 rfl) (by decide) ?_
    refine hz_goto (pc := 59) (tgt := 63) (hz_dec kX12_isSigned 32 rfl) (by decide) ?_
    exact hz_zret (pc := 63) (hz_dec kX12_isSigned 34 rfl) rfl rfl ⟨by rw [show decide (sgA f at_ dg = ad) = true from decide_eq_true (eA.symm.trans h3)]; rfl, rfl, hf1.tr hf2 rfl rfl, hs2, trivial⟩
