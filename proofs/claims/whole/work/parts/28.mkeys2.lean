set_option maxHeartbeats 4000000 in
set_option maxRecDepth 100000 in
theorem l_partSteps {κ : hz_C} {z : Nat} {M : hz_M} {B : Nat} (hk : md_k B M z) {P : hz_P} {v : Int64} {i a b : Nat} (hi : i < 8) (hb : b ≤ 15) (K : ∀ M1, frl B [3, 4, 5, 6] M M1 → md_s B M1 → P (some (.long (ky_ss v i a (b - a)))) z M1) : ∀ k q M1, k = b - (a + q) → a + q ≤ b → frl B [3, 4, 5, 6] M M1 → md_s B M1 → hz_W κ xX12_partSteps 5 0 0 P 0 0 7 [(8, .int (nI (a + q))), (6, .long (ky_ss v i a q)), (0, .ref B), (3, .int (nI i)), (5, .int (nI b))] [] z M1 := by
  intro k
  induction k using Nat.strongRecOn with
  | ind k ih =>
  intro q M1 hk2 hq hf1 hs1
  have hk1 : md_k B M1 z := hk.fr hf1 rfl rfl rfl
  obtain ⟨⟨fs, hO, hF⟩, -, -, h8, hz⟩ := id hk1
  obtain ⟨⟨v3, h3⟩, ⟨u4, h4⟩, ⟨d5, h5⟩, ⟨s6, h6⟩, ⟨g7, h7⟩, ⟨e8, h88⟩, ⟨q9, h9⟩⟩ := id hs1
  refine hz_iload (pc := 7) 0 (hz_dec kX12_partSteps 4 rfl) rfl ?_
  refine hz_iload (pc := 9) 4 (hz_dec kX12_partSteps 5 rfl) rfl ?_
  refine hz_n_ge (pc := 11) (tgt := 31) (hz_dec kX12_partSteps 6 rfl) (by decide) (by omega) (by omega) (fun h1 => ?_) (fun h1 => ?_)
  · skip
    have e : b - a = q := by omega
    have kk := K M1 hf1 hs1
    rw [e] at kk
    refine hz_lload (pc := 31) 1 (hz_dec kX12_partSteps 15 rfl) rfl ?_
    exact hz_lret (pc := 33) (hz_dec kX12_partSteps 16 rfl) rfl kk
  · skip
    refine hz_aloadn (pc := 14) 2 (hz_dec kX12_partSteps 7 rfl) rfl ?_
    refine hz_lload (pc := 15) 1 (hz_dec kX12_partSteps 8 rfl) rfl ?_
    refine hz_iloadn (pc := 17) 3 (hz_dec kX12_partSteps 9 rfl) rfl ?_
    refine hz_iload (pc := 18) 0 (hz_dec kX12_partSteps 10 rfl) rfl ?_
    refine hz_callV (pc := 20) (a := B) (As := [.long (ky_ss v i a q), .int (nI i), .int (nI (a + q))]) (st := []) (hz_dec kX12_partSteps 11 rfl) co_X12_342 im_X12_partStep se_X12_partStep rfl hO h8 (by omega) (c_partStep hk1 hs1 hi (j := a + q) (by omega)) rfl (by decide) ⟨Nat.le_refl _, Nat.le_refl _⟩ (Nat.le_of_ble_eq_true rfl) rfl (fun r9 z9 M2 hp9 => ?_)
    obtain ⟨rfl, rfl, hf2, hs2, -⟩ := hp9
    refine hz_lstore (pc := 23) (i := 6) (lo2 := [(6, .long (ky_s (ky_ss v i a q) i (a + q))), (8, .int (nI (a + q))), (0, .ref B), (3, .int (nI i)), (5, .int (nI b))]) (hz_dec kX12_partSteps 12 rfl) (by decide) rfl ?_
    refine hz_incN (pc := 25) (i := 8) (lo2 := [(8, .int (nI (a + q + 1))), (6, .long (ky_s (ky_ss v i a q) i (a + q))), (0, .ref B), (3, .int (nI i)), (5, .int (nI b))]) 1 (hz_dec kX12_partSteps 13 rfl) rfl (by decide) rfl ?_
    refine hz_goto (pc := 28) (tgt := 7) (hz_dec kX12_partSteps 14 rfl) (by decide) ?_
    rw [show a + q + 1 = a + (q + 1) by omega]
    refine hz_pick (pc := 7) [0, 1, 2, 3, 4] rfl ?_
    exact ih (b - (a + (q + 1))) (by omega) (q + 1) M2 rfl (by omega) (hf1.tr hf2 rfl rfl) hs2
set_option maxHeartbeats 4000000 in
set_option maxRecDepth 100000 in
theorem c_partSteps {κ : hz_C} {z : Nat} {M : hz_M} {B : Nat} (hk : md_k B M z) (hsc : md_s B M) {v : Int64} {i a b : Nat} (hi : i < 8) (hab : a ≤ b) (hb : b ≤ 15) : hz_Mt κ xX12_partSteps 5 0 0 [.ref B, .long v, .int (nI i), .int (nI a), .int (nI b)] z M (md_hF M z B [3, 4, 5, 6] (some (.long (ky_ss v i a (b - a)))) (fun _ => True)) := by
  refine hz_ent (lo := [(0, .ref B), (1, .long v), (3, .int (nI i)), (4, .int (nI a)), (5, .int (nI b))]) (by decide) (Nat.le_of_ble_eq_true rfl) rfl ?_
  refine hz_lloadn (pc := 0) 1 (hz_dec kX12_partSteps 0 rfl) rfl ?_
  refine hz_lstore (pc := 1) (i := 6) (lo2 := [(6, .long v), (0, .ref B), (1, .long v), (3, .int (nI i)), (4, .int (nI a)), (5, .int (nI b))]) (hz_dec kX12_partSteps 1 rfl) (by decide) rfl ?_
  refine hz_iload (pc := 3) 4 (hz_dec kX12_partSteps 2 rfl) rfl ?_
  refine hz_istore (pc := 5) (i := 8) (lo2 := [(8, .int (nI a)), (6, .long v), (0, .ref B), (1, .long v), (3, .int (nI i)), (4, .int (nI a)), (5, .int (nI b))]) (hz_dec kX12_partSteps 3 rfl) (by decide) rfl ?_
  refine hz_pick (pc := 7) [0, 1, 2, 4, 6] rfl ?_
  exact l_partSteps hk hi hb (fun M1 h1 h2 => ⟨rfl, rfl, h1, h2, trivial⟩) (b - a) 0 M rfl (by omega) frl.rf hsc
set_option maxHeartbeats 4000000 in
set_option maxRecDepth 100000 in
theorem l_adEnds {κ : hz_C} {z : Nat} {M : hz_M} {B : Nat} (hk : md_k B M z) (hsc : md_s B M) {en : Nat → Int64} (hen : M (B + 8) = .inl (2, 8, .inr (.inl en))) {P : hz_P} (K : ∀ s : Nat → Int32, (∀ j, j < 64 → s j = sb_b (byl (en (j / 8)) (j % 8))) → hz_W κ xX12_addressOfEnds 4 0 0 P 0 0 31 [(0, .ref B)] [] z (va_up M (B + 6) (.inl (1, 64, .inl s)))) : ∀ k i s, k = 8 - i → i ≤ 8 → (∀ j, j < 8 * i → s j = sb_b (byl (en (j / 8)) (j % 8))) → hz_W κ xX12_addressOfEnds 4 0 0 P 0 0 2 [(1, .int (nI i)), (0, .ref B)] [] z (va_up M (B + 6) (.inl (1, 64, .inl s))) := by
  intro k
  induction k using Nat.strongRecOn with
  | ind k ih =>
  intro i s hk2 hi hs
  have hk0 := hk
  have hs0 := hsc
  obtain ⟨⟨fs, hO, hF⟩, -, -, h8, hz⟩ := hk0
  obtain ⟨⟨v3, h3⟩, ⟨u4, h4⟩, ⟨d5, h5⟩, ⟨s6, h6⟩, ⟨g7, h7⟩, ⟨e8, h88⟩, ⟨q9, h9⟩⟩ := hs0
  refine hz_iloadn (pc := 2) 0 (hz_dec kX12_addressOfEnds 2 rfl) rfl ?_
  refine hz_bipush (pc := 3) (v := nI 8) (hz_dec kX12_addressOfEnds 3 rfl) (by decide) ?_
  refine hz_n_ge (pc := 5) (tgt := 31) (hz_dec kX12_addressOfEnds 4 rfl) (by decide) (by omega) (by omega) (fun h1 => ?_) (fun h1 => ?_)
  · skip
    have e : i = 8 := by omega
    subst e
    refine hz_pick (pc := 31) [1] rfl ?_
    exact K s hs
  · skip
    refine hz_aloadn (pc := 8) 1 (hz_dec kX12_addressOfEnds 5 rfl) rfl ?_
    refine hz_get (pc := 9) (v := .ref (B + 6)) (hz_dec kX12_addressOfEnds 6 rfl) fo_X12_26 (hz_mne hO (by omega)) h8 (by omega) (hF.2 7 (by decide) (by decide)) ?_
    refine hz_bipush (pc := 12) (v := nI 8) (hz_dec kX12_addressOfEnds 7 rfl) (by decide) ?_
    refine hz_iloadn (pc := 14) 0 (hz_dec kX12_addressOfEnds 8 rfl) rfl ?_
    refine hz_mulN (pc := 15) (hz_dec kX12_addressOfEnds 9 rfl) ?_
    refine hz_aloadn (pc := 16) 1 (hz_dec kX12_addressOfEnds 10 rfl) rfl ?_
    refine hz_get (pc := 17) (v := .ref (B + 8)) (hz_dec kX12_addressOfEnds 11 rfl) fo_X12_32 (hz_mne hO (by omega)) h8 (by omega) (hF.2 9 (by decide) (by decide)) ?_
    refine hz_iloadn (pc := 20) 0 (hz_dec kX12_addressOfEnds 12 rfl) rfl ?_
    refine hz_lald (pc := 21) (j := i) (hz_dec kX12_addressOfEnds 13 rfl) (hz_mne hen (by omega)) (by omega) (by omega) rfl (by omega) (by decide) ?_
    refine hz_callS (pc := 22) (As := [.ref (B + 6), .int (nI (8 * i)), .long (en i)]) (st := []) (hz_dec kX12_addressOfEnds 14 rfl) co_X12_334 sc_X12_putLong (c_putLong (va_up_self _ _ _) (by omega) (by omega) (by decide) (by omega)) rfl (by decide) ⟨Nat.le_refl _, Nat.le_refl _⟩ (Nat.le_of_ble_eq_true rfl) rfl (fun r9 z9 M1 hp9 => ?_)
    obtain ⟨rfl, rfl, s1, hs1, hs2, rfl⟩ := hp9
    refine hz_mem (pc := 25) (M2 := (va_up M (B + 6) (.inl (1, 64, .inl (s1))))) (bx_uu _ _ _ _) ?_
    refine hz_incN (pc := 25) (i := 1) (lo2 := [(1, .int (nI (i + 1))), (0, .ref B)]) 0 (hz_dec kX12_addressOfEnds 15 rfl) rfl (by decide) rfl ?_
    refine hz_goto (pc := 28) (tgt := 2) (hz_dec kX12_addressOfEnds 16 rfl) (by decide) ?_
    refine hz_pick (pc := 2) [0, 1] rfl ?_
    refine ih (8 - (i + 1)) (by omega) (i + 1) s1 rfl (by omega) (fun j hj => ?_)
    rcases Nat.lt_or_ge j (8 * i) with r | r
    · rw [hs2 j (Or.inl r)]; exact hs j r
    · obtain ⟨j2, rfl⟩ : ∃ j2, j = 8 * i + j2 := ⟨j - 8 * i, by omega⟩
      rw [hs1 j2 (by omega), show (8 * i + j2) / 8 = i by omega, show (8 * i + j2) % 8 = j2 by omega]
set_option maxHeartbeats 4000000 in
set_option maxRecDepth 100000 in
theorem c_adEnds {κ : hz_C} {z : Nat} {M : hz_M} {B : Nat} (hk : md_k B M z) (hsc : md_s B M) {en : Nat → Int64} (hen : M (B + 8) = .inl (2, 8, .inr (.inl en))) : hz_Mt κ xX12_addressOfEnds 4 0 0 [.ref B] z M (md_hF M z B [3, 4, 5, 6] (some (.long (ky_ad en))) (fun _ => True)) := by
  refine hz_ent (lo := [(0, .ref B)]) (by decide) (Nat.le_of_ble_eq_true rfl) rfl ?_
  have hk0 := hk
  have hs0 := hsc
  obtain ⟨⟨fs, hO, hF⟩, -, -, h8, hz⟩ := hk0
  obtain ⟨⟨v3, h3⟩, ⟨u4, h4⟩, ⟨d5, h5⟩, ⟨s6, h6⟩, ⟨g7, h7⟩, ⟨e8, h88⟩, ⟨q9, h9⟩⟩ := hs0
  refine hz_iconst (pc := 0) (v := nI 0) (hz_dec kX12_addressOfEnds 0 rfl) (by decide) ?_
  refine hz_istoren (pc := 1) (i := 1) (lo2 := [(1, .int (nI 0)), (0, .ref B)]) (hz_dec kX12_addressOfEnds 1 rfl) rfl (by decide) rfl ?_
  refine hz_pick (pc := 2) [0, 1] rfl ?_
  refine hz_mem (hz_upid h6).symm ?_
  refine l_adEnds hk hsc hen (fun s hsS => ?_) 8 0 s6 rfl (by omega) (fun j hj => absurd hj (by omega))
  refine hz_aloadn (pc := 31) 0 (hz_dec kX12_addressOfEnds 17 rfl) rfl ?_
  refine hz_aloadn (pc := 32) 0 (hz_dec kX12_addressOfEnds 18 rfl) rfl ?_
  refine hz_get (pc := 33) (v := .ref (B + 6)) (hz_dec kX12_addressOfEnds 19 rfl) fo_X12_26 (hz_mne hO (by omega)) h8 (by omega) (hF.2 7 (by decide) (by decide)) ?_
  refine hz_iconst (pc := 36) (v := nI 0) (hz_dec kX12_addressOfEnds 20 rfl) (by decide) ?_
  refine hz_bipush (pc := 37) (v := nI 64) (hz_dec kX12_addressOfEnds 21 rfl) (by decide) ?_
  have hk1 : md_k B (va_up M (B + 6) (.inl (1, 64, .inl (s)))) z := hk.fr (frl.up (os := [6]) rfl) rfl rfl rfl
  have hss : md_s B (va_up M (B + 6) (.inl (1, 64, .inl (s)))) := ⟨⟨v3, hz_mne h3 (by omega)⟩, ⟨u4, hz_mne h4 (by omega)⟩, ⟨d5, hz_mne h5 (by omega)⟩, ⟨s, va_up_self _ _ _⟩, ⟨g7, hz_mne h7 (by omega)⟩, ⟨e8, hz_mne h88 (by omega)⟩, ⟨q9, hz_mne h9 (by omega)⟩⟩
  refine hz_callV (pc := 39) (a := B) (As := [.ref (B + 6), .int (nI 0), .int (nI 64)]) (st := []) (hz_dec kX12_addressOfEnds 22 rfl) co_X12_338 im_X12_shortOf se_X12_shortOf rfl (hz_mne hO (by omega)) h8 (by omega) (c_shortOf hk1 hss (va_up_self _ _ _) (by omega) (by omega) (by decide) (by decide)) rfl (by decide) ⟨Nat.le_refl _, Nat.le_refl _⟩ (Nat.le_of_ble_eq_true rfl) rfl (fun r9 z9 M2 hp9 => ?_)
  obtain ⟨rfl, rfl, hf2, hs4, -⟩ := hp9
  have e : sh_h s 0 64 = (hs (fun q => byl (en (q / 8)) (q % 8)) 64) := hs_of (fun q hq => by rw [Nat.zero_add, hsS q hq, bb_sb (byl_lt _ _)]; exact (Nat.mod_eq_of_lt (byl_lt _ _)).symm)
  exact hz_lret (pc := 42) (hz_dec kX12_addressOfEnds 23 rfl) rfl ⟨by rw [e]; rfl, rfl, (frl.up (os := [6]) rfl).tr hf2 rfl rfl, hs4, trivial⟩
set_option maxHeartbeats 4000000 in
set_option maxRecDepth 100000 in
theorem l_adOf {κ : hz_C} {z : Nat} {M : hz_M} {B : Nat} (hk : md_k B M z) {P : hz_P} {v : Int64} (K : ∀ M1, frl B [3, 4, 5, 6, 8] M M1 → md_s B M1 → (∃ en : Nat → Int64, M1 (B + 8) = .inl (2, 8, .inr (.inl en)) ∧ ∀ j, j < 8 → en j = ky_ss (ky_b v j) j 0 15) → hz_W κ xX12_addressOf 6 0 0 P 0 0 34 [(0, .ref B)] [] z M1) : ∀ k i M1, k = 8 - i → i ≤ 8 → frl B [3, 4, 5, 6, 8] M M1 → md_s B M1 → (∃ en : Nat → Int64, M1 (B + 8) = .inl (2, 8, .inr (.inl en)) ∧ ∀ j, j < i → en j = ky_ss (ky_b v j) j 0 15) → hz_W κ xX12_addressOf 6 0 0 P 0 0 2 [(3, .int (nI i)), (0, .ref B), (1, .long v)] [] z M1 := by
  intro k
  induction k using Nat.strongRecOn with
  | ind k ih =>
  intro i M1 hk2 hi hf1 hs1 hE
  have hk1 : md_k B M1 z := hk.fr hf1 rfl rfl rfl
  obtain ⟨⟨fs, hO, hF⟩, -, -, h8, hz⟩ := id hk1
  obtain ⟨⟨v3, h3⟩, ⟨u4, h4⟩, ⟨d5, h5⟩, ⟨s6, h6⟩, ⟨g7, h7⟩, ⟨e8, h88⟩, ⟨q9, h9⟩⟩ := id hs1
  obtain ⟨en, hen, hec⟩ := id hE
  refine hz_iloadn (pc := 2) 0 (hz_dec kX12_addressOf 2 rfl) rfl ?_
  refine hz_bipush (pc := 3) (v := nI 8) (hz_dec kX12_addressOf 3 rfl) (by decide) ?_
  refine hz_n_ge (pc := 5) (tgt := 34) (hz_dec kX12_addressOf 4 rfl) (by decide) (by omega) (by omega) (fun h1 => ?_) (fun h1 => ?_)
  · skip
    have e : i = 8 := by omega
    subst e
    refine hz_pick (pc := 34) [1] rfl ?_
    exact K M1 hf1 hs1 hE
  · skip
    refine hz_aloadn (pc := 8) 1 (hz_dec kX12_addressOf 5 rfl) rfl ?_
    refine hz_get (pc := 9) (v := .ref (B + 8)) (hz_dec kX12_addressOf 6 rfl) fo_X12_32 hO h8 (by omega) (hF.2 9 (by decide) (by decide)) ?_
    refine hz_iloadn (pc := 12) 0 (hz_dec kX12_addressOf 7 rfl) rfl ?_
    refine hz_aloadn (pc := 13) 1 (hz_dec kX12_addressOf 8 rfl) rfl ?_
    refine hz_aloadn (pc := 14) 1 (hz_dec kX12_addressOf 9 rfl) rfl ?_
    refine hz_lloadn (pc := 15) 2 (hz_dec kX12_addressOf 10 rfl) rfl ?_
    refine hz_iloadn (pc := 16) 0 (hz_dec kX12_addressOf 11 rfl) rfl ?_
    refine hz_callV (pc := 17) (a := B) (As := [.long v, .int (nI i)]) (st := [.ref B, .int (nI i), .ref (B + 8)]) (hz_dec kX12_addressOf 12 rfl) co_X12_346 im_X12_partBegin se_X12_partBegin rfl hO h8 (by omega) (c_partBegin hk1 hs1 h1) rfl (by decide) ⟨Nat.le_refl _, Nat.le_refl _⟩ (Nat.le_of_ble_eq_true rfl) rfl (fun r9 z9 M2 hp9 => ?_)
    obtain ⟨rfl, rfl, hf2, hs2, -⟩ := hp9
    have hk3 : md_k B M2 z := hk1.fr hf2 rfl rfl rfl
    refine hz_iloadn (pc := 20) 0 (hz_dec kX12_addressOf 13 rfl) rfl ?_
    refine hz_iconst (pc := 21) (v := nI 0) (hz_dec kX12_addressOf 14 rfl) (by decide) ?_
    refine hz_bipush (pc := 22) (v := nI 15) (hz_dec kX12_addressOf 15 rfl) (by decide) ?_
    refine hz_callV (pc := 24) (a := B) (As := [.long (ky_b v i), .int (nI i), .int (nI 0), .int (nI 15)]) (st := [.int (nI i), .ref (B + 8)]) (hz_dec kX12_addressOf 16 rfl) co_X12_350 im_X12_partSteps se_X12_partSteps rfl ((hf2.at0 rfl).trans hO) h8 (by omega) (c_partSteps (a := 0) (b := 15) hk3 hs2 h1 (by decide) (by decide)) rfl (by decide) ⟨Nat.le_refl _, Nat.le_refl _⟩ (Nat.le_of_ble_eq_true rfl) rfl (fun r9 z9 M3 hp9 => ?_)
    obtain ⟨rfl, rfl, hf3, hs3, -⟩ := hp9
    have he3 : M3 (B + 8) = .inl (2, 8, .inr (.inl en)) := (hf3.at 8 rfl).trans ((hf2.at 8 rfl).trans hen)
    refine hz_last (pc := 27) (j := i) (hz_dec kX12_addressOf 17 rfl) he3 (by omega) (by omega) rfl (by omega) (by decide) ?_
    refine hz_incN (pc := 28) (i := 3) (lo2 := [(3, .int (nI (i + 1))), (0, .ref B), (1, .long v)]) 0 (hz_dec kX12_addressOf 18 rfl) rfl (by decide) rfl ?_
    refine hz_goto (pc := 31) (tgt := 2) (hz_dec kX12_addressOf 19 rfl) (by decide) ?_
    refine hz_pick (pc := 2) [0, 1, 2] rfl ?_
    obtain ⟨⟨a3, b3⟩, ⟨a4, b4⟩, ⟨a5, b5⟩, ⟨a6, b6⟩, ⟨a7, b7⟩, -, ⟨a9, b9⟩⟩ := hs3
    refine ih (8 - (i + 1)) (by omega) (i + 1) _ rfl (by omega) (((hf1.tr (os3 := [3, 4, 5, 6, 8]) hf2 rfl rfl).tr (os3 := [3, 4, 5, 6, 8]) hf3 rfl rfl).tr (frl.up (os := [8]) rfl) rfl rfl) ⟨⟨a3, hz_mne b3 (by omega)⟩, ⟨a4, hz_mne b4 (by omega)⟩, ⟨a5, hz_mne b5 (by omega)⟩, ⟨a6, hz_mne b6 (by omega)⟩, ⟨a7, hz_mne b7 (by omega)⟩, ⟨_, va_up_self _ _ _⟩, ⟨a9, hz_mne b9 (by omega)⟩⟩ ⟨_, va_up_self _ _ _, fun j hj => ?_⟩
    simp only [vp_updL]
    split
    · next e => subst e; rfl
    · exact hec j (by omega)
set_option maxHeartbeats 4000000 in
set_option maxRecDepth 100000 in
theorem c_adOf {κ : hz_C} {z : Nat} {M : hz_M} {B : Nat} (hk : md_k B M z) (hsc : md_s B M) {v : Int64} : hz_Mt κ xX12_addressOf 6 0 0 [.ref B, .long v] z M (md_hF M z B [3, 4, 5, 6, 8] (some (.long (ky_a v))) (fun _ => True)) := by
  refine hz_ent (lo := [(0, .ref B), (1, .long v)]) (by decide) (Nat.le_of_ble_eq_true rfl) rfl ?_
  have hk0 := hk
  have hs0 := hsc
  obtain ⟨⟨fs, hO, hF⟩, -, -, h8, hz⟩ := hk0
  obtain ⟨⟨v3, h3⟩, ⟨u4, h4⟩, ⟨d5, h5⟩, ⟨s6, h6⟩, ⟨g7, h7⟩, ⟨e8, h88⟩, ⟨q9, h9⟩⟩ := hs0
  refine hz_iconst (pc := 0) (v := nI 0) (hz_dec kX12_addressOf 0 rfl) (by decide) ?_
  refine hz_istoren (pc := 1) (i := 3) (lo2 := [(3, .int (nI 0)), (0, .ref B), (1, .long v)]) (hz_dec kX12_addressOf 1 rfl) rfl (by decide) rfl ?_
  refine hz_pick (pc := 2) [0, 1, 2] rfl ?_
  refine l_adOf hk (fun M1 hf1 hs1 hE => ?_) 8 0 M rfl (by omega) frl.rf hsc ⟨e8, h88, fun j hj => absurd hj (by omega)⟩
  obtain ⟨en, hen, hec⟩ := hE
  have hk1 : md_k B M1 z := hk.fr hf1 rfl rfl rfl
  refine hz_aloadn (pc := 34) 0 (hz_dec kX12_addressOf 20 rfl) rfl ?_
  refine hz_callV (pc := 35) (a := B) (As := []) (st := []) (hz_dec kX12_addressOf 21 rfl) co_X12_354 im_X12_addressOfEnds se_X12_addressOfEnds rfl ((hf1.at0 rfl).trans hO) h8 (by omega) (c_adEnds hk1 hs1 hen) rfl (by decide) ⟨Nat.le_refl _, Nat.le_refl _⟩ (Nat.le_of_ble_eq_true rfl) rfl (fun r9 z9 M2 hp9 => ?_)
  obtain ⟨rfl, rfl, hf2, hs2, -⟩ := hp9
  exact hz_lret (pc := 38) (hz_dec kX12_addressOf 22 rfl) rfl ⟨by rw [ky_ad_c hec]; rfl, rfl, hf1.tr hf2 rfl rfl, hs2, trivial⟩
set_option maxHeartbeats 4000000 in
set_option maxRecDepth 100000 in
theorem l_twice {κ : hz_C} {z : Nat} {M : hz_M} {B : Nat} (hk : md_k B M z) (hsc : md_s B M) {P : hz_P} {d : Nat → Int32} (hd : M (B + 5) = .inl (1, 32, .inl d)) (hbd : ∀ j, j < 32 → (d j).toInt8.toInt32 = d j) (K : ∀ g : Nat → Int32, (∀ j, j < 32 → g j = d j) → hz_W κ xX12_twiceOf 3 0 0 P 0 0 37 [(0, .ref B)] [] z (va_up M (B + 7) (.inl (1, 32, .inl g)))) : ∀ k i g, k = 32 - i → i ≤ 32 → (∀ j, j < i → g j = d j) → hz_W κ xX12_twiceOf 3 0 0 P 0 0 10 [(4, .int (nI i)), (0, .ref B)] [] z (va_up M (B + 7) (.inl (1, 32, .inl g))) := by
  intro k
  induction k using Nat.strongRecOn with
  | ind k ih =>
  intro i g hk2 hi hg
  have hk0 := hk
  have hs0 := hsc
  obtain ⟨⟨fs, hO, hF⟩, -, -, h8, hz⟩ := hk0
  obtain ⟨⟨v3, h3⟩, ⟨u4, h4⟩, ⟨d5, h5⟩, ⟨s6, h6⟩, ⟨g7, h7⟩, ⟨e8, h88⟩, ⟨q9, h9⟩⟩ := hs0
  refine hz_iload (pc := 10) 0 (hz_dec kX12_twiceOf 7 rfl) rfl ?_
  refine hz_bipush (pc := 12) (v := nI 32) (hz_dec kX12_twiceOf 8 rfl) (by decide) ?_
  refine hz_n_ge (pc := 14) (tgt := 37) (hz_dec kX12_twiceOf 9 rfl) (by decide) (by omega) (by omega) (fun h1 => ?_) (fun h1 => ?_)
  · skip
    have e : i = 32 := by omega
    subst e
    refine hz_pick (pc := 37) [1] rfl ?_
    exact K g hg
  · skip
    refine hz_aloadn (pc := 17) 1 (hz_dec kX12_twiceOf 10 rfl) rfl ?_
    refine hz_get (pc := 18) (v := .ref (B + 7)) (hz_dec kX12_twiceOf 11 rfl) fo_X12_29 (hz_mne hO (by omega)) h8 (by omega) (hF.2 8 (by decide) (by decide)) ?_
    refine hz_iload (pc := 21) 0 (hz_dec kX12_twiceOf 12 rfl) rfl ?_
    refine hz_aloadn (pc := 23) 1 (hz_dec kX12_twiceOf 13 rfl) rfl ?_
    refine hz_get (pc := 24) (v := .ref (B + 5)) (hz_dec kX12_twiceOf 14 rfl) fo_X12_22 (hz_mne hO (by omega)) h8 (by omega) (hF.2 6 (by decide) (by decide)) ?_
    refine hz_iload (pc := 27) 0 (hz_dec kX12_twiceOf 15 rfl) rfl ?_
    refine hz_bald (pc := 29) (j := i) (hz_dec kX12_twiceOf 16 rfl) (hz_mne hd (by omega)) (by omega) (by omega) rfl (by omega) (by decide) ?_
    refine hz_bast (pc := 30) (j := i) (hz_dec kX12_twiceOf 17 rfl) (va_up_self _ _ _) (by omega) (by omega) rfl (by omega) (by decide) ?_
    refine hz_mem (pc := 31) (M2 := (va_up M (B + 7) (.inl (1, 32, .inl (upd g i ((d i).toInt8.toInt32)))))) (bx_uu _ _ _ _) ?_
    refine hz_incN (pc := 31) (i := 4) (lo2 := [(4, .int (nI (i + 1))), (0, .ref B)]) 0 (hz_dec kX12_twiceOf 18 rfl) rfl (by decide) rfl ?_
    refine hz_goto (pc := 34) (tgt := 10) (hz_dec kX12_twiceOf 19 rfl) (by decide) ?_
    refine hz_pick (pc := 10) [0, 1] rfl ?_
    refine ih (32 - (i + 1)) (by omega) (i + 1) _ rfl (by omega) (fun j hj => ?_)
    simp only [upd]
    split
    · next e => subst e; exact hbd j h1
    · exact hg j (by omega)
set_option maxHeartbeats 4000000 in
set_option maxRecDepth 100000 in
theorem c_twiceOf {κ : hz_C} {z : Nat} {M : hz_M} {B : Nat} (hk : md_k B M z) (hsc : md_s B M) {r nb at_ n : Nat} {f : Nat → Int32} (hR : M r = .inl (1, nb, .inl f)) (hr8 : 8 ≤ r) (hrz : r < z) (hnb : nb < 2 ^ 24) (hrr : at_ + n ≤ nb) : hz_Mt κ xX12_twiceOf 3 0 0 [.ref B, .ref r, .int (nI at_), .int (nI n)] z M (md_hF M z B [3, 4, 5, 7] none (md_dg B (sh_2 (sh_h f at_ n)))) := by
  refine hz_ent (lo := [(0, .ref B), (1, .ref r), (2, .int (nI at_)), (3, .int (nI n))]) (by decide) (Nat.le_of_ble_eq_true rfl) rfl ?_
  have hk0 := hk
  have hs0 := hsc
  obtain ⟨⟨fs, hO, hF⟩, -, -, h8, hz⟩ := hk0
  obtain ⟨⟨v3, h3⟩, ⟨u4, h4⟩, ⟨d5, h5⟩, ⟨s6, h6⟩, ⟨g7, h7⟩, ⟨e8, h88⟩, ⟨q9, h9⟩⟩ := hs0
  refine hz_aloadn (pc := 0) 0 (hz_dec kX12_twiceOf 0 rfl) rfl ?_
  refine hz_aloadn (pc := 1) 1 (hz_dec kX12_twiceOf 1 rfl) rfl ?_
  refine hz_iloadn (pc := 2) 2 (hz_dec kX12_twiceOf 2 rfl) rfl ?_
  refine hz_iloadn (pc := 3) 3 (hz_dec kX12_twiceOf 3 rfl) rfl ?_
  refine hz_callV (pc := 4) (a := B) (As := [.ref r, .int (nI at_), .int (nI n)]) (st := []) (hz_dec kX12_twiceOf 4 rfl) co_X12_326 im_X12_hashOf se_X12_hashOf rfl hO h8 (by omega) (c_hashF hk hsc hR hr8 hrz hnb hrr) rfl (by decide) ⟨Nat.le_refl _, Nat.le_refl _⟩ (Nat.le_of_ble_eq_true rfl) rfl (fun r9 z9 M1 hp9 => ?_)
  obtain ⟨rfl, rfl, hf1, hs1, d, hd, hdc⟩ := hp9
  refine hz_iconst (pc := 7) (v := nI 0) (hz_dec kX12_twiceOf 5 rfl) (by decide) ?_
  refine hz_istore (pc := 8) (i := 4) (lo2 := [(4, .int (nI 0)), (0, .ref B), (1, .ref r), (2, .int (nI at_)), (3, .int (nI n))]) (hz_dec kX12_twiceOf 6 rfl) (by decide) rfl ?_
  refine hz_pick (pc := 10) [0, 1] rfl ?_
  have hk1 : md_k B M1 z := hk.fr hf1 rfl rfl rfl
  obtain ⟨⟨a3, b3⟩, ⟨a4, b4⟩, ⟨a5, b5⟩, ⟨a6, b6⟩, ⟨a7, b7⟩, ⟨a8, b8⟩, ⟨a9, b9⟩⟩ := id hs1
  refine hz_bytes hd (by omega) (by omega) (fun hbd => ?_)
  refine hz_mem (hz_upid b7).symm ?_
  refine l_twice hk1 hs1 hd hbd (fun g hg => ?_) 32 0 a7 rfl (by omega) (fun j hj => absurd hj (by omega))
  refine hz_aloadn (pc := 37) 0 (hz_dec kX12_twiceOf 20 rfl) rfl ?_
  refine hz_aloadn (pc := 38) 0 (hz_dec kX12_twiceOf 21 rfl) rfl ?_
  refine hz_get (pc := 39) (v := .ref (B + 7)) (hz_dec kX12_twiceOf 22 rfl) fo_X12_29 (hz_mne ((hf1.at0 rfl).trans hO) (by omega)) h8 (by omega) (hF.2 8 (by decide) (by decide)) ?_
  refine hz_iconst (pc := 42) (v := nI 0) (hz_dec kX12_twiceOf 23 rfl) (by decide) ?_
  refine hz_bipush (pc := 43) (v := nI 32) (hz_dec kX12_twiceOf 24 rfl) (by decide) ?_
  have hk3 : md_k B (va_up M1 (B + 7) (.inl (1, 32, .inl (g)))) z := hk1.fr (frl.up (os := [7]) rfl) rfl rfl rfl
  have hss : md_s B (va_up M1 (B + 7) (.inl (1, 32, .inl (g)))) := ⟨⟨a3, hz_mne b3 (by omega)⟩, ⟨a4, hz_mne b4 (by omega)⟩, ⟨a5, hz_mne b5 (by omega)⟩, ⟨a6, hz_mne b6 (by omega)⟩, ⟨g, va_up_self _ _ _⟩, ⟨a8, hz_mne b8 (by omega)⟩, ⟨a9, hz_mne b9 (by omega)⟩⟩
  refine hz_callV (pc := 45) (a := B) (As := [.ref (B + 7), .int (nI 0), .int (nI 32)]) (st := []) (hz_dec kX12_twiceOf 25 rfl) co_X12_326 im_X12_hashOf se_X12_hashOf rfl (hz_mne ((hf1.at0 rfl).trans hO) (by omega)) h8 (by omega) (c_hashF (at_ := 0) (n := 32) hk3 hss (va_up_self _ _ _) (by omega) (by omega) (by decide) (by decide)) rfl (by decide) ⟨Nat.le_refl _, Nat.le_refl _⟩ (Nat.le_of_ble_eq_true rfl) rfl (fun r9 z9 M2 hp9 => ?_)
  obtain ⟨rfl, rfl, hf2, hs2, d2, hd2, hdc2⟩ := hp9
  have e : sh_h g 0 32 = sh_2 (sh_h f at_ n) := sh_2_o (fun i hi => (hg i hi).trans (hdc i hi))
  exact hz_vret (pc := 48) (hz_dec kX12_twiceOf 26 rfl) rfl ⟨rfl, rfl, (hf1.tr (os3 := [3, 4, 5, 7]) (frl.up (os := [7]) rfl) rfl rfl).tr hf2 rfl rfl, hs2, d2, hd2, fun i hi => by rw [hdc2 i hi, e]⟩
