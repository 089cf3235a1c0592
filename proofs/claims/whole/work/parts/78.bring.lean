/-! the reference: a stored block is brought -/
set_option maxHeartbeats 4000000 in
set_option maxRecDepth 100000 in
theorem c_br2_l {κ : hz_C} {z : Nat} {M : hz_M} {B : Nat} (hO_ : md_O M B) (hE : mdE M B) (h8 : 8 ≤ B) (hz : B + 88 ≤ z) {v tip : Nat} {bl : List bk_B} (hv : v < 6) (hnb : bl.length ≤ 128) (hN : nbX (fA M B) (fL M B) v bl tip) {x : Nat} (hx : x < bl.length) (hsz : (bBy bl x).length ≤ 200 ∨ fA M B 24 (128 * v + x) ≠ -1) (hs4 : (bBy bl x).length ≤ 4000) (hby34 : ∀ j, j < 200 → (fA M B 34 j).toInt8.toInt32 = fA M B 34 j) (hby51 : ∀ j, j < 73728 → (fA M B 51 j).toInt8.toInt32 = fA M B 51 j) : ∀ k i g, k = (bBy bl x).length - i → i ≤ (bBy bl x).length → (∀ j, j < i → g j = lf (bBy bl x) j) → hz_W κ xX12_bring2 1 0 0 (fun r z2 M2 => none = r ∧ z = z2 ∧ ∃ g : Nat → Int32, isA g 0 (bBy bl x) ∧ va_up M (B + 50) (.inl (1, 4000, .inl g)) = M2) 0 0 9 [(4, .int (nI i)), (3, .int (nI (128 * v + x))), (0, .ref B), (1, .int (nI v)), (2, .int (nI x))] [] z (va_up M (B + 50) (.inl (1, 4000, .inl g))) := by
  intro k
  induction k using Nat.strongRecOn with
  | ind k ih =>
  intro i g hk hi hg
  obtain ⟨fs, hO, hF⟩ := id hO_
  have hNx := hN.2.2 x hx
  refine hz_iload (pc := 9) 0 (hz_dec kX12_bring2 6 rfl) rfl ?_
  refine hz_aloadn (pc := 11) 2 (hz_dec kX12_bring2 7 rfl) rfl ?_
  refine hz_get (pc := 12) (v := .ref (B + 25)) (hz_dec kX12_bring2 8 rfl) fo_X12_86 (hz_mne hO (by omega)) h8 (by omega) (hF.2 27 (by decide) (by decide)) ?_
  refine hz_iloadn (pc := 15) 1 (hz_dec kX12_bring2 9 rfl) rfl ?_
  refine hz_iald (pc := 16) (j := 128 * v + x) (hz_dec kX12_bring2 10 rfl) (hz_mne hE.a25 (by omega)) (by omega) (by omega) rfl (by omega) (by decide) ?_
  refine hz_eqi (pc := 17) hNx.1 ?_
  refine hz_n_ge (pc := 17) (tgt := 74) (hz_dec kX12_bring2 11 rfl) (by decide) (by omega) (by omega) (fun h1 => ?_) (fun h1 => ?_)
  · skip
    have e : i = (bBy bl x).length := by omega
    refine hz_vret (pc := 74) (hz_dec kX12_bring2 43 rfl) rfl ⟨rfl, rfl, g, fun j hj => ?_, rfl⟩
    rw [Nat.zero_add]
    exact hg j (by omega)
  · skip
    refine hz_aloadn (pc := 20) 2 (hz_dec kX12_bring2 12 rfl) rfl ?_
    refine hz_get (pc := 21) (v := .ref (B + 50)) (hz_dec kX12_bring2 13 rfl) fo_X12_168 (hz_mne hO (by omega)) h8 (by omega) (hF.2 57 (by decide) (by decide)) ?_
    refine hz_iload (pc := 24) 0 (hz_dec kX12_bring2 14 rfl) rfl ?_
    refine hz_aloadn (pc := 26) 2 (hz_dec kX12_bring2 15 rfl) rfl ?_
    refine hz_get (pc := 27) (v := .ref (B + 24)) (hz_dec kX12_bring2 16 rfl) fo_X12_83 (hz_mne hO (by omega)) h8 (by omega) (hF.2 26 (by decide) (by decide)) ?_
    refine hz_iloadn (pc := 30) 1 (hz_dec kX12_bring2 17 rfl) rfl ?_
    refine hz_iald (pc := 31) (j := 128 * v + x) (hz_dec kX12_bring2 18 rfl) (hz_mne hE.a24 (by omega)) (by omega) (by omega) rfl (by omega) (by decide) ?_
    rcases hNx.2.2.2.2.2 with ⟨hp, hA⟩ | ⟨p, hp, hp2, hA⟩
    · skip
      refine hz_eqi (pc := 32) hp ?_
      have hs2 : (bBy bl x).length ≤ 200 := hsz.resolve_right (fun q => q hp)
      refine hz_if_ge (pc := 32) (tgt := 45) (hz_dec kX12_bring2 19 rfl) (by decide) (fun h2 => ?_) (fun h2 => ?_)
      · skip
        exact absurd h2 (by decide)
      · skip
        refine hz_aloadn (pc := 35) 2 (hz_dec kX12_bring2 20 rfl) rfl ?_
        refine hz_get (pc := 36) (v := .ref (B + 34)) (hz_dec kX12_bring2 21 rfl) fo_X12_113 (hz_mne hO (by omega)) h8 (by omega) (hF.2 36 (by decide) (by decide)) ?_
        refine hz_iload (pc := 39) 0 (hz_dec kX12_bring2 22 rfl) rfl ?_
        refine hz_bald (pc := 41) (j := i) (hz_dec kX12_bring2 23 rfl) (hz_mne hE.a34 (by omega)) (by omega) (by omega) rfl (by omega) (by decide) ?_
        refine hz_goto (pc := 42) (tgt := 67) (hz_dec kX12_bring2 24 rfl) (by decide) ?_
        refine hz_bast (pc := 67) (j := i) (hz_dec kX12_bring2 40 rfl) (va_up_self _ _ _) (by omega) (by omega) rfl (by omega) (by decide) ?_
        refine hz_mem (pc := 68) (M2 := (va_up M (B + 50) (.inl (1, 4000, .inl (upd g i (((fA M B 34) i).toInt8.toInt32)))))) (bx_uu _ _ _ _) ?_
        refine hz_incN (pc := 68) (i := 4) (lo2 := [(4, .int (nI (i + 1))), (3, .int (nI (128 * v + x))), (0, .ref B), (1, .int (nI v)), (2, .int (nI x))]) 0 (hz_dec kX12_bring2 41 rfl) rfl (by decide) rfl ?_
        refine hz_goto (pc := 71) (tgt := 9) (hz_dec kX12_bring2 42 rfl) (by decide) ?_
        refine hz_pick (pc := 9) [0, 1, 2, 3, 4] rfl ?_
        refine ih ((bBy bl x).length - (i + 1)) (by omega) (i + 1) _ rfl (by omega) (fun j hj => ?_)
        simp only [upd]
        split
        · next e => rw [e]; rw [hby34 _ (by omega)]; have q := hA i h1; rw [Nat.zero_add] at q; exact q
        · exact hg j (by omega)
    · skip
      refine hz_eqi (pc := 32) hp ?_
      refine hz_z_ge (pc := 32) (tgt := 45) (hz_dec kX12_bring2 19 rfl) (by decide) (by omega) ?_
      refine hz_aloadn (pc := 45) 2 (hz_dec kX12_bring2 25 rfl) rfl ?_
      refine hz_get (pc := 46) (v := .ref (B + 51)) (hz_dec kX12_bring2 26 rfl) fo_X12_171 (hz_mne hO (by omega)) h8 (by omega) (hF.2 58 (by decide) (by decide)) ?_
      refine hz_sipush (pc := 49) (v := nI 12288) (hz_dec kX12_bring2 27 rfl) (by decide) ?_
      refine hz_iloadn (pc := 52) 3 (hz_dec kX12_bring2 28 rfl) rfl ?_
      refine hz_mulN (pc := 53) (hz_dec kX12_bring2 29 rfl) ?_
      refine hz_aloadn (pc := 54) 2 (hz_dec kX12_bring2 30 rfl) rfl ?_
      refine hz_get (pc := 55) (v := .ref (B + 24)) (hz_dec kX12_bring2 31 rfl) fo_X12_83 (hz_mne hO (by omega)) h8 (by omega) (hF.2 26 (by decide) (by decide)) ?_
      refine hz_iloadn (pc := 58) 1 (hz_dec kX12_bring2 32 rfl) rfl ?_
      refine hz_iald (pc := 59) (j := 128 * v + x) (hz_dec kX12_bring2 33 rfl) (hz_mne hE.a24 (by omega)) (by omega) (by omega) rfl (by omega) (by decide) ?_
      refine hz_eqi (pc := 60) hp ?_
      refine hz_addN (pc := 60) (hz_dec kX12_bring2 34 rfl) ?_
      refine hz_iconst (pc := 61) (v := nI 2) (hz_dec kX12_bring2 35 rfl) (by decide) ?_
      refine hz_addN (pc := 62) (hz_dec kX12_bring2 36 rfl) ?_
      refine hz_iload (pc := 63) 0 (hz_dec kX12_bring2 37 rfl) rfl ?_
      refine hz_addN (pc := 65) (hz_dec kX12_bring2 38 rfl) ?_
      refine hz_bald (pc := 66) (j := (((12288 * v) + p) + 2) + i) (hz_dec kX12_bring2 39 rfl) (hz_mne hE.a51 (by omega)) (by omega) (by omega) rfl (by omega) (by decide) ?_
      refine hz_bast (pc := 67) (j := i) (hz_dec kX12_bring2 40 rfl) (va_up_self _ _ _) (by omega) (by omega) rfl (by omega) (by decide) ?_
      refine hz_mem (pc := 68) (M2 := (va_up M (B + 50) (.inl (1, 4000, .inl (upd g i (((fA M B 51) ((((12288 * v) + p) + 2) + i)).toInt8.toInt32)))))) (bx_uu _ _ _ _) ?_
      refine hz_incN (pc := 68) (i := 4) (lo2 := [(4, .int (nI (i + 1))), (3, .int (nI (128 * v + x))), (0, .ref B), (1, .int (nI v)), (2, .int (nI x))]) 0 (hz_dec kX12_bring2 41 rfl) rfl (by decide) rfl ?_
      refine hz_goto (pc := 71) (tgt := 9) (hz_dec kX12_bring2 42 rfl) (by decide) ?_
      refine hz_pick (pc := 9) [0, 1, 2, 3, 4] rfl ?_
      refine ih ((bBy bl x).length - (i + 1)) (by omega) (i + 1) _ rfl (by omega) (fun j hj => ?_)
      simp only [upd]
      split
      · next e => rw [e]; rw [hby51 _ (by omega)]; exact hA i h1
      · exact hg j (by omega)
set_option maxHeartbeats 4000000 in
set_option maxRecDepth 100000 in
theorem c_br2 {κ : hz_C} {z : Nat} {M : hz_M} {B : Nat} (hO_ : md_O M B) (hE : mdE M B) (h8 : 8 ≤ B) (hz : B + 88 ≤ z) {v tip : Nat} {bl : List bk_B} (hv : v < 6) (hnb : bl.length ≤ 128) (hN : nbX (fA M B) (fL M B) v bl tip) {x : Nat} (hx : x < bl.length) (hsz : (bBy bl x).length ≤ 200 ∨ fA M B 24 (128 * v + x) ≠ -1) (hs4 : (bBy bl x).length ≤ 4000) : hz_Mt κ xX12_bring2 1 0 0 [.ref B, .int (nI v), .int (nI x)] z M (fun r z2 M2 => none = r ∧ z = z2 ∧ ∃ g : Nat → Int32, isA g 0 (bBy bl x) ∧ va_up M (B + 50) (.inl (1, 4000, .inl g)) = M2) := by
  refine hz_ent (lo := [(0, .ref B), (1, .int (nI v)), (2, .int (nI x))]) (by decide) (Nat.le_of_ble_eq_true rfl) rfl ?_
  obtain ⟨fs, hO, hF⟩ := id hO_
  have hNx := hN.2.2 x hx
  refine hz_iloadn (pc := 0) 1 (hz_dec kX12_bring2 0 rfl) rfl ?_
  refine hz_iloadn (pc := 1) 2 (hz_dec kX12_bring2 1 rfl) rfl ?_
  refine hz_xS (pc := 2) (As := [.int (nI v), .int (nI x)]) (st := []) (hz_dec kX12_bring2 2 rfl) co_X12_419 sc_X12_at0 (c_at0) rfl (by decide) ⟨Nat.le_refl _, Nat.le_refl _⟩ (Nat.le_of_ble_eq_true rfl) rfl ?_
  refine hz_istoren (pc := 5) (i := 3) (lo2 := [(3, .int (nI (128 * v + x))), (0, .ref B), (1, .int (nI v)), (2, .int (nI x))]) (hz_dec kX12_bring2 3 rfl) rfl (by decide) rfl ?_
  refine hz_iconst (pc := 6) (v := nI 0) (hz_dec kX12_bring2 4 rfl) (by decide) ?_
  refine hz_istore (pc := 7) (i := 4) (lo2 := [(4, .int (nI 0)), (3, .int (nI (128 * v + x))), (0, .ref B), (1, .int (nI v)), (2, .int (nI x))]) (hz_dec kX12_bring2 5 rfl) (by decide) rfl ?_
  refine hz_pick (pc := 9) [0, 1, 2, 3, 4] rfl ?_
  refine hz_bytes hE.a34 (by omega) (by omega) (fun hby34 => hz_bytes hE.a51 (by omega) (by omega) (fun hby51 => ?_))
  refine hz_mem (pc := 9) (hz_upid hE.a50).symm ?_
  exact c_br2_l hO_ hE h8 hz hv hnb hN hx hsz hs4 hby34 hby51 (bBy bl x).length 0 _ rfl (by omega) (fun j hj => absurd hj (by omega))
