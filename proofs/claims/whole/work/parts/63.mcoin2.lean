/-! the reference: a coin is dropped; a transaction's spending -/
def drI {α : Type} (f g : Nat → α) (k0 i : Nat) : Prop := (∀ j, j < i → g j = if j < k0 then f j else f (j + 1)) ∧ ∀ j, i ≤ j → g j = f j
theorem drI.st {f g : Nat → Int32} {k0 i : Nat} (h : drI f g k0 i) (hi : k0 ≤ i) : drI f (upd g i (g (i + 1))) k0 (i + 1) := by
  refine ⟨fun j hj => ?_, fun j hj => ?_⟩
  · simp only [upd]
    split
    · next e => rw [e, if_neg (by omega), h.2 (i + 1) (by omega)]
    · exact h.1 j (by omega)
  · simp only [upd]
    rw [if_neg (by omega)]
    exact h.2 j (by omega)
theorem drI.stL {f g : Nat → Int64} {k0 i : Nat} (h : drI f g k0 i) (hi : k0 ≤ i) : drI f (vp_updL g i (g (i + 1))) k0 (i + 1) := by
  refine ⟨fun j hj => ?_, fun j hj => ?_⟩
  · simp only [vp_updL]
    split
    · next e => rw [e, if_neg (by omega), h.2 (i + 1) (by omega)]
    · exact h.1 j (by omega)
  · simp only [vp_updL]
    rw [if_neg (by omega)]
    exact h.2 j (by omega)
theorem drI.z {α : Type} {f : Nat → α} {k0 : Nat} : drI f f k0 k0 := ⟨fun j hj => by rw [if_pos hj], fun _ _ => rfl⟩
set_option maxHeartbeats 4000000 in
set_option maxRecDepth 100000 in
theorem c_mcDr_l {κ : hz_C} {z : Nat} {M0 : hz_M} {B n k0 : Nat} (h8 : 8 ≤ B) (hz : B + 88 ≤ z) (hn : n < 4900) {f1 : Nat → Int64} {f2 : Nat → Int32} {f3 : Nat → Int64} {f4 : Nat → Int64} {f5 : Nat → Int32} {f6 : Nat → Int32} {P : hz_P} (K : ∀ M (d1 : Nat → Int64) (d2 : Nat → Int32) (d3 : Nat → Int64) (d4 : Nat → Int64) (d5 : Nat → Int32) (d6 : Nat → Int32), mfr B [53] [43, 44, 45, 46, 47, 48] M0 M → fdB M B 53 = some (.int (nI n)) → M (B + 43) = .inl (2, 5000, .inr (.inl d1)) → M (B + 44) = .inl (0, 5000, .inl d2) → M (B + 45) = .inl (2, 5000, .inr (.inl d3)) → M (B + 46) = .inl (2, 5000, .inr (.inl d4)) → M (B + 47) = .inl (0, 5000, .inl d5) → M (B + 48) = .inl (3, 5000, .inl d6) → drI f1 d1 k0 n → drI f2 d2 k0 n → drI f3 d3 k0 n → drI f4 d4 k0 n → drI f5 d5 k0 n → drI f6 d6 k0 n → P none z M) : ∀ k i M (d1 : Nat → Int64) (d2 : Nat → Int32) (d3 : Nat → Int64) (d4 : Nat → Int64) (d5 : Nat → Int32) (d6 : Nat → Int32), k = n - i → k0 ≤ i → i ≤ n → mfr B [53] [43, 44, 45, 46, 47, 48] M0 M → fdB M B 53 = some (.int (nI n)) → M (B + 43) = .inl (2, 5000, .inr (.inl d1)) → M (B + 44) = .inl (0, 5000, .inl d2) → M (B + 45) = .inl (2, 5000, .inr (.inl d3)) → M (B + 46) = .inl (2, 5000, .inr (.inl d4)) → M (B + 47) = .inl (0, 5000, .inl d5) → M (B + 48) = .inl (3, 5000, .inl d6) → drI f1 d1 k0 i → drI f2 d2 k0 i → drI f3 d3 k0 i → drI f4 d4 k0 i → drI f5 d5 k0 i → drI f6 d6 k0 i → hz_W κ xX12_dropCoin 0 0 0 P 0 0 12 [(2, .int (nI i)), (0, .ref B)] [] z M := by
  intro k
  induction k using Nat.strongRecOn with
  | ind k ih =>
  intro i M d1 d2 d3 d4 d5 d6 hk hi0 hi hfr hs53 g1 g2 g3 g4 g5 g6 e1 e2 e3 e4 e5 e6
  obtain ⟨fs, hO, hF⟩ := id hfr.2.1
  have hs53a := hs53
  rw [fdB_of hO] at hs53
  refine hz_iloadn (pc := 12) 0 (hz_dec kX12_dropCoin 8 rfl) rfl ?_
  refine hz_aloadn (pc := 13) 1 (hz_dec kX12_dropCoin 9 rfl) rfl ?_
  refine hz_get (pc := 14) (v := .int (nI n)) (hz_dec kX12_dropCoin 10 rfl) fo_X12_479 hO h8 (by omega) hs53 ?_
  refine hz_n_ge (pc := 17) (tgt := 110) (hz_dec kX12_dropCoin 11 rfl) (by decide) (by omega) (by omega) (fun h1 => ?_) (fun h1 => ?_)
  · skip
    have e : i = n := by omega
    subst e
    exact hz_vret (pc := 110) (hz_dec kX12_dropCoin 74 rfl) rfl (K M d1 d2 d3 d4 d5 d6 hfr hs53a g1 g2 g3 g4 g5 g6 e1 e2 e3 e4 e5 e6)
  · skip
    refine hz_bools g6 (by omega) (by omega) (fun hb6 => ?_)
    refine hz_aloadn (pc := 20) 1 (hz_dec kX12_dropCoin 12 rfl) rfl ?_
    refine hz_get (pc := 21) (v := .ref (B + 43)) (hz_dec kX12_dropCoin 13 rfl) fo_X12_140 hO h8 (by omega) (hF.2 47 (by decide) (by decide)) ?_
    refine hz_iloadn (pc := 24) 0 (hz_dec kX12_dropCoin 14 rfl) rfl ?_
    refine hz_aloadn (pc := 25) 1 (hz_dec kX12_dropCoin 15 rfl) rfl ?_
    refine hz_get (pc := 26) (v := .ref (B + 43)) (hz_dec kX12_dropCoin 16 rfl) fo_X12_140 hO h8 (by omega) (hF.2 47 (by decide) (by decide)) ?_
    refine hz_iloadn (pc := 29) 0 (hz_dec kX12_dropCoin 17 rfl) rfl ?_
    refine hz_iconst (pc := 30) (v := nI 1) (hz_dec kX12_dropCoin 18 rfl) (by decide) ?_
    refine hz_addN (pc := 31) (hz_dec kX12_dropCoin 19 rfl) ?_
    refine hz_lald (pc := 32) (j := i + 1) (hz_dec kX12_dropCoin 20 rfl) g1 (by omega) (by omega) rfl (by omega) (by decide) ?_
    refine hz_last (pc := 33) (j := i) (hz_dec kX12_dropCoin 21 rfl) g1 (by omega) (by omega) rfl (by omega) (by decide) ?_
    refine hz_aloadn (pc := 34) 1 (hz_dec kX12_dropCoin 22 rfl) rfl ?_
    refine hz_get (pc := 35) (v := .ref (B + 44)) (hz_dec kX12_dropCoin 23 rfl) fo_X12_143 (hz_mne hO (by omega)) h8 (by omega) (hF.2 48 (by decide) (by decide)) ?_
    refine hz_iloadn (pc := 38) 0 (hz_dec kX12_dropCoin 24 rfl) rfl ?_
    refine hz_aloadn (pc := 39) 1 (hz_dec kX12_dropCoin 25 rfl) rfl ?_
    refine hz_get (pc := 40) (v := .ref (B + 44)) (hz_dec kX12_dropCoin 26 rfl) fo_X12_143 (hz_mne hO (by omega)) h8 (by omega) (hF.2 48 (by decide) (by decide)) ?_
    refine hz_iloadn (pc := 43) 0 (hz_dec kX12_dropCoin 27 rfl) rfl ?_
    refine hz_iconst (pc := 44) (v := nI 1) (hz_dec kX12_dropCoin 28 rfl) (by decide) ?_
    refine hz_addN (pc := 45) (hz_dec kX12_dropCoin 29 rfl) ?_
    refine hz_iald (pc := 46) (j := i + 1) (hz_dec kX12_dropCoin 30 rfl) (hz_mne g2 (by omega)) (by omega) (by omega) rfl (by omega) (by decide) ?_
    refine hz_iast (pc := 47) (j := i) (hz_dec kX12_dropCoin 31 rfl) (hz_mne g2 (by omega)) (by omega) (by omega) rfl (by omega) (by decide) ?_
    refine hz_aloadn (pc := 48) 1 (hz_dec kX12_dropCoin 32 rfl) rfl ?_
    refine hz_get (pc := 49) (v := .ref (B + 45)) (hz_dec kX12_dropCoin 33 rfl) fo_X12_146 (hz_mne (hz_mne hO (by omega)) (by omega)) h8 (by omega) (hF.2 49 (by decide) (by decide)) ?_
    refine hz_iloadn (pc := 52) 0 (hz_dec kX12_dropCoin 34 rfl) rfl ?_
    refine hz_aloadn (pc := 53) 1 (hz_dec kX12_dropCoin 35 rfl) rfl ?_
    refine hz_get (pc := 54) (v := .ref (B + 45)) (hz_dec kX12_dropCoin 36 rfl) fo_X12_146 (hz_mne (hz_mne hO (by omega)) (by omega)) h8 (by omega) (hF.2 49 (by decide) (by decide)) ?_
    refine hz_iloadn (pc := 57) 0 (hz_dec kX12_dropCoin 37 rfl) rfl ?_
    refine hz_iconst (pc := 58) (v := nI 1) (hz_dec kX12_dropCoin 38 rfl) (by decide) ?_
    refine hz_addN (pc := 59) (hz_dec kX12_dropCoin 39 rfl) ?_
    refine hz_lald (pc := 60) (j := i + 1) (hz_dec kX12_dropCoin 40 rfl) (hz_mne (hz_mne g3 (by omega)) (by omega)) (by omega) (by omega) rfl (by omega) (by decide) ?_
    refine hz_last (pc := 61) (j := i) (hz_dec kX12_dropCoin 41 rfl) (hz_mne (hz_mne g3 (by omega)) (by omega)) (by omega) (by omega) rfl (by omega) (by decide) ?_
    refine hz_aloadn (pc := 62) 1 (hz_dec kX12_dropCoin 42 rfl) rfl ?_
    refine hz_get (pc := 63) (v := .ref (B + 46)) (hz_dec kX12_dropCoin 43 rfl) fo_X12_149 (hz_mne (hz_mne (hz_mne hO (by omega)) (by omega)) (by omega)) h8 (by omega) (hF.2 50 (by decide) (by decide)) ?_
    refine hz_iloadn (pc := 66) 0 (hz_dec kX12_dropCoin 44 rfl) rfl ?_
    refine hz_aloadn (pc := 67) 1 (hz_dec kX12_dropCoin 45 rfl) rfl ?_
    refine hz_get (pc := 68) (v := .ref (B + 46)) (hz_dec kX12_dropCoin 46 rfl) fo_X12_149 (hz_mne (hz_mne (hz_mne hO (by omega)) (by omega)) (by omega)) h8 (by omega) (hF.2 50 (by decide) (by decide)) ?_
    refine hz_iloadn (pc := 71) 0 (hz_dec kX12_dropCoin 47 rfl) rfl ?_
    refine hz_iconst (pc := 72) (v := nI 1) (hz_dec kX12_dropCoin 48 rfl) (by decide) ?_
    refine hz_addN (pc := 73) (hz_dec kX12_dropCoin 49 rfl) ?_
    refine hz_lald (pc := 74) (j := i + 1) (hz_dec kX12_dropCoin 50 rfl) (hz_mne (hz_mne (hz_mne g4 (by omega)) (by omega)) (by omega)) (by omega) (by omega) rfl (by omega) (by decide) ?_
    refine hz_last (pc := 75) (j := i) (hz_dec kX12_dropCoin 51 rfl) (hz_mne (hz_mne (hz_mne g4 (by omega)) (by omega)) (by omega)) (by omega) (by omega) rfl (by omega) (by decide) ?_
    refine hz_aloadn (pc := 76) 1 (hz_dec kX12_dropCoin 52 rfl) rfl ?_
    refine hz_get (pc := 77) (v := .ref (B + 47)) (hz_dec kX12_dropCoin 53 rfl) fo_X12_152 (hz_mne (hz_mne (hz_mne (hz_mne hO (by omega)) (by omega)) (by omega)) (by omega)) h8 (by omega) (hF.2 51 (by decide) (by decide)) ?_
    refine hz_iloadn (pc := 80) 0 (hz_dec kX12_dropCoin 54 rfl) rfl ?_
    refine hz_aloadn (pc := 81) 1 (hz_dec kX12_dropCoin 55 rfl) rfl ?_
    refine hz_get (pc := 82) (v := .ref (B + 47)) (hz_dec kX12_dropCoin 56 rfl) fo_X12_152 (hz_mne (hz_mne (hz_mne (hz_mne hO (by omega)) (by omega)) (by omega)) (by omega)) h8 (by omega) (hF.2 51 (by decide) (by decide)) ?_
    refine hz_iloadn (pc := 85) 0 (hz_dec kX12_dropCoin 57 rfl) rfl ?_
    refine hz_iconst (pc := 86) (v := nI 1) (hz_dec kX12_dropCoin 58 rfl) (by decide) ?_
    refine hz_addN (pc := 87) (hz_dec kX12_dropCoin 59 rfl) ?_
    refine hz_iald (pc := 88) (j := i + 1) (hz_dec kX12_dropCoin 60 rfl) (hz_mne (hz_mne (hz_mne (hz_mne g5 (by omega)) (by omega)) (by omega)) (by omega)) (by omega) (by omega) rfl (by omega) (by decide) ?_
    refine hz_iast (pc := 89) (j := i) (hz_dec kX12_dropCoin 61 rfl) (hz_mne (hz_mne (hz_mne (hz_mne g5 (by omega)) (by omega)) (by omega)) (by omega)) (by omega) (by omega) rfl (by omega) (by decide) ?_
    refine hz_aloadn (pc := 90) 1 (hz_dec kX12_dropCoin 62 rfl) rfl ?_
    refine hz_get (pc := 91) (v := .ref (B + 48)) (hz_dec kX12_dropCoin 63 rfl) fo_X12_155 (hz_mne (hz_mne (hz_mne (hz_mne (hz_mne hO (by omega)) (by omega)) (by omega)) (by omega)) (by omega)) h8 (by omega) (hF.2 52 (by decide) (by decide)) ?_
    refine hz_iloadn (pc := 94) 0 (hz_dec kX12_dropCoin 64 rfl) rfl ?_
    refine hz_aloadn (pc := 95) 1 (hz_dec kX12_dropCoin 65 rfl) rfl ?_
    refine hz_get (pc := 96) (v := .ref (B + 48)) (hz_dec kX12_dropCoin 66 rfl) fo_X12_155 (hz_mne (hz_mne (hz_mne (hz_mne (hz_mne hO (by omega)) (by omega)) (by omega)) (by omega)) (by omega)) h8 (by omega) (hF.2 52 (by decide) (by decide)) ?_
    refine hz_iloadn (pc := 99) 0 (hz_dec kX12_dropCoin 67 rfl) rfl ?_
    refine hz_iconst (pc := 100) (v := nI 1) (hz_dec kX12_dropCoin 68 rfl) (by decide) ?_
    refine hz_addN (pc := 101) (hz_dec kX12_dropCoin 69 rfl) ?_
    refine hz_zald (pc := 102) (j := i + 1) (hz_dec kX12_dropCoin 70 rfl) (hz_mne (hz_mne (hz_mne (hz_mne (hz_mne g6 (by omega)) (by omega)) (by omega)) (by omega)) (by omega)) (by omega) (by omega) rfl (by omega) (by decide) ?_
    refine hz_zast (pc := 103) (j := i) (hz_dec kX12_dropCoin 71 rfl) (hz_mne (hz_mne (hz_mne (hz_mne (hz_mne g6 (by omega)) (by omega)) (by omega)) (by omega)) (by omega)) (by omega) (by omega) rfl (by omega) (by decide) (hb6 (i + 1) (by omega)) ?_
    refine hz_incN (pc := 104) (i := 2) (lo2 := [(2, .int (nI (i + 1))), (0, .ref B)]) 0 (hz_dec kX12_dropCoin 72 rfl) rfl (by decide) rfl ?_
    refine hz_goto (pc := 107) (tgt := 12) (hz_dec kX12_dropCoin 73 rfl) (by decide) ?_
    refine hz_pick (pc := 12) [0, 1] rfl ?_
    exact ih (n - (i + 1)) (by omega) (i + 1) _ _ _ _ _ _ _ rfl (by omega) (by omega) ((((((hfr.upA (o := 43) rfl (by decide)).upA (o := 44) rfl (by decide)).upA (o := 45) rfl (by decide)).upA (o := 46) rfl (by decide)).upA (o := 47) rfl (by decide)).upA (o := 48) rfl (by decide)) ((fdB_of (hz_mne (hz_mne (hz_mne (hz_mne (hz_mne (hz_mne hO (by omega)) (by omega)) (by omega)) (by omega)) (by omega)) (by omega)) 53).trans hs53) (hz_mne (hz_mne (hz_mne (hz_mne (hz_mne (va_up_self _ _ _) (by omega)) (by omega)) (by omega)) (by omega)) (by omega)) (hz_mne (hz_mne (hz_mne (hz_mne (va_up_self _ _ _) (by omega)) (by omega)) (by omega)) (by omega)) (hz_mne (hz_mne (hz_mne (va_up_self _ _ _) (by omega)) (by omega)) (by omega)) (hz_mne (hz_mne (va_up_self _ _ _) (by omega)) (by omega)) (hz_mne (va_up_self _ _ _) (by omega)) (va_up_self _ _ _) (e1.stL hi0) (e2.st hi0) (e3.stL hi0) (e4.stL hi0) (e5.st hi0) (e6.st hi0)
set_option maxHeartbeats 4000000 in
set_option maxRecDepth 100000 in
theorem c_mcDr {κ : hz_C} {z : Nat} {M : hz_M} {B : Nat} {cs : List co_C} (h : mcR M B cs) (h8 : 8 ≤ B) (hz : B + 88 ≤ z) {k0 : Nat} (hk0 : k0 < cs.length) : hz_Mt κ xX12_dropCoin 0 0 0 [.ref B, .int (nI k0)] z M (fun r z2 M2 => none = r ∧ z = z2 ∧ mfr B [53] [43, 44, 45, 46, 47, 48] M M2 ∧ mcR M2 B (cs.eraseIdx k0)) := by
  refine hz_ent (lo := [(0, .ref B), (1, .int (nI k0))]) (by decide) (Nat.le_of_ble_eq_true rfl) rfl ?_
  obtain ⟨⟨fs, hO, hF⟩, hs53, hle, f1, f2, f3, f4, f5, f6, g1, g2, g3, g4, g5, g6, hX⟩ := id h
  rw [fdB_of hO] at hs53
  refine hz_aloadn (pc := 0) 0 (hz_dec kX12_dropCoin 0 rfl) rfl ?_
  refine hz_dup (pc := 1) (hz_dec kX12_dropCoin 1 rfl) rfl ?_
  refine hz_get (pc := 2) (v := .int (nI (cs.length))) (hz_dec kX12_dropCoin 2 rfl) fo_X12_479 hO h8 (by omega) hs53 ?_
  refine hz_iconst (pc := 5) (v := nI 1) (hz_dec kX12_dropCoin 3 rfl) (by decide) ?_
  refine hz_subN (pc := 6) (hz_dec kX12_dropCoin 4 rfl) (by omega) ?_
  refine hz_puti (pc := 7) (hz_dec kX12_dropCoin 5 rfl) fo_X12_479 ft_X12_53 hO h8 (by omega) (by rw [hF.1]; decide) ?_
  refine hz_iloadn (pc := 10) 1 (hz_dec kX12_dropCoin 6 rfl) rfl ?_
  refine hz_istoren (pc := 11) (i := 2) (lo2 := [(2, .int (nI k0)), (0, .ref B), (1, .int (nI k0))]) (hz_dec kX12_dropCoin 7 rfl) rfl (by decide) rfl ?_
  refine hz_pick (pc := 12) [0, 1] rfl ?_
  refine c_mcDr_l (M0 := M) (n := cs.length - 1) (k0 := k0) h8 hz (by omega) (fun M2 d1 d2 d3 d4 d5 d6 hfr hs2 q1 q2 q3 q4 q5 q6 e1 e2 e3 e4 e5 e6 => ?_) (cs.length - 1 - k0) k0 _ _ _ _ _ _ _ rfl (by omega) (by omega) ((mfr.rf ⟨fs, hO, hF⟩).upO hO hF rfl rfl) ((fdB_of (va_up_self _ _ _) 53).trans (List.getElem?_set_self (by rw [hF.1]; decide))) (hz_mne g1 (by omega)) (hz_mne g2 (by omega)) (hz_mne g3 (by omega)) (hz_mne g4 (by omega)) (hz_mne g5 (by omega)) (hz_mne g6 (by omega)) drI.z drI.z drI.z drI.z drI.z drI.z
  refine ⟨rfl, rfl, hfr, hfr.2.1, by rw [hs2, co_erl hk0], by rw [co_erl hk0]; omega, d1, d2, d3, d4, d5, d6, q1, q2, q3, q4, q5, q6, coX_er hX hk0 (fun j hj => ?_) (fun j hj hj2 => ?_)⟩
  · rw [e1.1 j (by omega), e2.1 j (by omega), e3.1 j (by omega), e4.1 j (by omega), e5.1 j (by omega), e6.1 j (by omega)]
    simp only [if_pos hj]
    exact ⟨trivial, trivial, trivial, trivial, trivial, trivial⟩
  · rw [e1.1 j (by omega), e2.1 j (by omega), e3.1 j (by omega), e4.1 j (by omega), e5.1 j (by omega), e6.1 j (by omega)]
    simp only [if_neg (show ¬ j < k0 by omega)]
    exact ⟨trivial, trivial, trivial, trivial, trivial, trivial⟩
theorem sb_128 : ∀ c, c < 128 → sb_b c = nI c := by decide +kernel
theorem mb_bb {x : Int32} {v : Nat} (h : x.toInt8.toInt32 = x) (hv : bb x = v) (hl : v < 128) : x = nI v := by
  rw [← sb_bb h, hv]
  exact sb_128 v hl
theorem mb_pl {x y : Int32} (h : x.toInt8.toInt32 = x) (e : x = y) (hl : bb y < 4) : x = nI (bb y) := by
  subst e
  exact mb_bb h rfl (by omega)
set_option maxHeartbeats 4000000 in
set_option maxRecDepth 100000 in
theorem c_mcSp_1 {κ : hz_C} {z : Nat} {M0 : hz_M} {B : Nat} {cs0 : List co_C} (h8 : 8 ≤ B) (hz : B + 88 ≤ z) {b n at_ : Nat} {f : Nat → Int32} {t : by_L} (hB : M0 b = .inl (1, n, .inl f)) (hb8 : 8 ≤ b) (hbz : b < z) (hn : n < 2 ^ 29) (ht : isA f at_ t) (hat : at_ + t.length ≤ n) (hW : txW t) (hbo : ∀ o ∈ (0 :: [43, 44, 45, 46, 47, 48]), b ≠ B + o) {iD : Int64} {ht_ : Nat} {P : hz_P} (K : ∀ M, mfr B [53, 54] [43, 44, 45, 46, 47, 48] M0 M → mcR M B (coSp t cs0 (txI t)) → fdB M B 54 = some (.int (-1)) → hz_W κ xX12_spendOf 2 0 0 P 0 0 67 [(6, .int (nI (txI t))), (0, .ref B), (1, .ref b), (2, .int (nI at_)), (3, .long iD), (5, .int (nI ht_))] [] z M) : ∀ k i M, k = txI t - i → i ≤ txI t → mfr B [53, 54] [43, 44, 45, 46, 47, 48] M0 M → mcR M B (coSp t cs0 i) → fdB M B 54 = some (.int (-1)) → hz_W κ xX12_spendOf 2 0 0 P 0 0 15 [(7, .int (nI i)), (6, .int (nI (txI t))), (0, .ref B), (1, .ref b), (2, .int (nI at_)), (3, .long iD), (5, .int (nI ht_))] [] z M := by
  intro k
  induction k using Nat.strongRecOn with
  | ind k ih =>
  intro i M hk hi hfr h h54
  obtain ⟨w1, w2, w3, w4, w5⟩ := txW_sz hW
  have hB1 : M b = .inl (1, n, .inl f) := (hfr.1 b hbo).trans hB
  have hoa : 73 * txI t ≤ tx_oa (txI t) := by unfold tx_oa; split <;> omega
  obtain ⟨⟨fs, hO, hF⟩, hs53, hle, f1, f2, f3, f4, f5, f6, g1, g2, g3, g4, g5, g6, hX⟩ := id h
  rw [fdB_of hO] at hs53
  refine hz_bytes hB1 hb8 hbz (fun hby => ?_)
  refine hz_iload (pc := 15) 0 (hz_dec kX12_spendOf 9 rfl) rfl ?_
  refine hz_iload (pc := 17) 1 (hz_dec kX12_spendOf 10 rfl) rfl ?_
  refine hz_n_ge (pc := 19) (tgt := 67) (hz_dec kX12_spendOf 11 rfl) (by decide) (by omega) (by omega) (fun h1 => ?_) (fun h1 => ?_)
  · skip
    have e : i = txI t := by omega
    subst e
    refine hz_pick (pc := 67) [1, 2, 3, 4, 5, 6] rfl ?_
    exact K M hfr h h54
  · skip
    refine hz_aloadn (pc := 22) 3 (hz_dec kX12_spendOf 12 rfl) rfl ?_
    refine hz_iloadn (pc := 23) 4 (hz_dec kX12_spendOf 13 rfl) rfl ?_
    refine hz_iload (pc := 24) 0 (hz_dec kX12_spendOf 14 rfl) rfl ?_
    refine hz_xS (pc := 26) (As := [.ref b, .int (nI at_), .int (nI i)]) (st := []) (hz_dec kX12_spendOf 15 rfl) co_X12_485 sc_X12_inputAt (c_minputAt) rfl (by decide) ⟨Nat.le_refl _, Nat.le_refl _⟩ (Nat.le_of_ble_eq_true rfl) rfl ?_
    refine hz_istore (pc := 29) (i := 8) (lo2 := [(8, .int (nI (at_ + 2 + 73 * i))), (7, .int (nI i)), (6, .int (nI (txI t))), (0, .ref B), (1, .ref b), (2, .int (nI at_)), (3, .long iD), (5, .int (nI ht_))]) (hz_dec kX12_spendOf 16 rfl) (by decide) rfl ?_
    refine hz_aloadn (pc := 31) 3 (hz_dec kX12_spendOf 17 rfl) rfl ?_
    refine hz_aloadn (pc := 32) 4 (hz_dec kX12_spendOf 18 rfl) rfl ?_
    refine hz_iload (pc := 33) 0 (hz_dec kX12_spendOf 19 rfl) rfl ?_
    refine hz_xS (pc := 35) (As := [.ref b, .int (nI (at_ + 2 + 73 * i))]) (st := [.ref B]) (hz_dec kX12_spendOf 20 rfl) co_X12_330 sc_X12_longAt (c_longAt hB1 hb8 hbz (by omega) (by omega)) rfl (by decide) ⟨Nat.le_refl _, Nat.le_refl _⟩ (Nat.le_of_ble_eq_true rfl) rfl ?_
    refine hz_eql (pc := 38) (show _ = inId t i by rw [show at_ + 2 + 73 * i = at_ + (2 + 73 * i) by omega]; exact num_of ht (by omega)) ?_
    refine hz_aloadn (pc := 38) 4 (hz_dec kX12_spendOf 21 rfl) rfl ?_
    refine hz_iload (pc := 39) 0 (hz_dec kX12_spendOf 22 rfl) rfl ?_
    refine hz_bipush (pc := 41) (v := nI 8) (hz_dec kX12_spendOf 23 rfl) (by decide) ?_
    refine hz_addN (pc := 43) (hz_dec kX12_spendOf 24 rfl) ?_
    refine hz_bald (pc := 44) (j := (at_ + 2 + 73 * i) + 8) (hz_dec kX12_spendOf 25 rfl) hB1 hb8 hbz rfl (by omega) (by omega) ?_
    refine hz_eqi (pc := 45) (show _ = inPl t i from mb_pl (hby _ (by omega)) (by rw [show at_ + 2 + 73 * i + 8 = at_ + (2 + 73 * i + 8) by omega]; exact ht _ (by omega)) (w5 i (by omega))) ?_
    refine hz_xV (pc := 45) (a := B) (As := [.long (inId t i), .int (inPl t i)]) (st := []) (hz_dec kX12_spendOf 26 rfl) co_X12_488 im_X12_findCoin se_X12_findCoin rfl hO h8 (by omega) (c_mcIx h h8 hz) rfl (by decide) ⟨Nat.le_refl _, Nat.le_refl _⟩ (Nat.le_of_ble_eq_true rfl) rfl ?_
    by_cases c : coF (coSp t cs0 i) (inId t i) (inPl t i) < (coSp t cs0 i).length
    · skip
      refine hz_eqi (pc := 48) (show _ = nI (coF (coSp t cs0 i) (inId t i) (inPl t i)) from if_pos c) ?_
      refine hz_istore (pc := 48) (i := 9) (lo2 := [(9, .int (nI (coF (coSp t cs0 i) (inId t i) (inPl t i)))), (8, .int (nI (at_ + 2 + 73 * i))), (7, .int (nI i)), (6, .int (nI (txI t))), (0, .ref B), (1, .ref b), (2, .int (nI at_)), (3, .long iD), (5, .int (nI ht_))]) (hz_dec kX12_spendOf 27 rfl) (by decide) rfl ?_
      refine hz_iload (pc := 50) 0 (hz_dec kX12_spendOf 28 rfl) rfl ?_
      refine hz_z_lt (pc := 52) (tgt := 61) (hz_dec kX12_spendOf 29 rfl) (by decide) (by omega) ?_
      refine hz_aloadn (pc := 55) 4 (hz_dec kX12_spendOf 30 rfl) rfl ?_
      refine hz_iload (pc := 56) 0 (hz_dec kX12_spendOf 31 rfl) rfl ?_
      refine hz_callV (pc := 58) (a := B) (As := [.int (nI (coF (coSp t cs0 i) (inId t i) (inPl t i)))]) (st := []) (hz_dec kX12_spendOf 32 rfl) co_X12_492 im_X12_dropCoin se_X12_dropCoin rfl hO h8 (by omega) (c_mcDr h h8 hz c) rfl (by decide) ⟨Nat.le_refl _, Nat.le_refl _⟩ (Nat.le_of_ble_eq_true rfl) rfl (fun r9 z9 M2 hp9 => ?_)
      obtain ⟨rfl, rfl, hf2, h2⟩ := hp9
      refine hz_incN (pc := 61) (i := 7) (lo2 := [(7, .int (nI (i + 1))), (9, .int (nI (coF (coSp t cs0 i) (inId t i) (inPl t i)))), (8, .int (nI (at_ + 2 + 73 * i))), (6, .int (nI (txI t))), (0, .ref B), (1, .ref b), (2, .int (nI at_)), (3, .long iD), (5, .int (nI ht_))]) 2 (hz_dec kX12_spendOf 33 rfl) rfl (by decide) rfl ?_
      refine hz_goto (pc := 64) (tgt := 15) (hz_dec kX12_spendOf 34 rfl) (by decide) ?_
      refine hz_pick (pc := 15) [0, 3, 4, 5, 6, 7, 8] rfl ?_
      refine ih (txI t - (i + 1)) (by omega) (i + 1) _ rfl (by omega) (hfr.tr (hf2.mono rfl rfl)) ?_ ((hf2.2.2 54 rfl).trans h54)
      show mcR _ B (coDrop _ _ _)
      unfold coDrop
      rw [if_pos c]
      exact h2
    · skip
      refine hz_eqi (pc := 48) (show _ = (-1 : Int32) from if_neg c) ?_
      refine hz_istore (pc := 48) (i := 9) (lo2 := [(9, .int (-1)), (8, .int (nI (at_ + 2 + 73 * i))), (7, .int (nI i)), (6, .int (nI (txI t))), (0, .ref B), (1, .ref b), (2, .int (nI at_)), (3, .long iD), (5, .int (nI ht_))]) (hz_dec kX12_spendOf 27 rfl) (by decide) rfl ?_
      refine hz_iload (pc := 50) 0 (hz_dec kX12_spendOf 28 rfl) rfl ?_
      refine hz_if_lt (pc := 52) (tgt := 61) (hz_dec kX12_spendOf 29 rfl) (by decide) (fun h5 => ?_) (fun h5 => ?_)
      · skip
        refine hz_incN (pc := 61) (i := 7) (lo2 := [(7, .int (nI (i + 1))), (9, .int (-1)), (8, .int (nI (at_ + 2 + 73 * i))), (6, .int (nI (txI t))), (0, .ref B), (1, .ref b), (2, .int (nI at_)), (3, .long iD), (5, .int (nI ht_))]) 2 (hz_dec kX12_spendOf 33 rfl) rfl (by decide) rfl ?_
        refine hz_goto (pc := 64) (tgt := 15) (hz_dec kX12_spendOf 34 rfl) (by decide) ?_
        refine hz_pick (pc := 15) [0, 3, 4, 5, 6, 7, 8] rfl ?_
        refine ih (txI t - (i + 1)) (by omega) (i + 1) _ rfl (by omega) hfr ?_ h54
        show mcR _ B (coDrop _ _ _)
        unfold coDrop
        rw [if_neg c]
        exact h
      · skip
        exact absurd (by decide) h5
set_option maxHeartbeats 4000000 in
set_option maxRecDepth 100000 in
theorem c_mcSp_2 {κ : hz_C} {z : Nat} {M0 : hz_M} {B : Nat} {cs1 : List co_C} (h8 : 8 ≤ B) (hz : B + 88 ≤ z) {b n at_ : Nat} {f : Nat → Int32} {t : by_L} (hB : M0 b = .inl (1, n, .inl f)) (hb8 : 8 ≤ b) (hbz : b < z) (hn : n < 2 ^ 29) (ht : isA f at_ t) (hat : at_ + t.length ≤ n) (hW : txW t) (hbo : ∀ o ∈ (0 :: [43, 44, 45, 46, 47, 48]), b ≠ B + o) {iD : Int64} {ht_ : Nat} (hrm : cs1.length + txO t ≤ 4000) : ∀ k i M, k = txO t - i → i ≤ txO t → mfr B [53, 54] [43, 44, 45, 46, 47, 48] M0 M → mcR M B (coAd t iD ht_ cs1 i) → fdB M B 54 = some (.int (-1)) → hz_W κ xX12_spendOf 2 0 0 (fun r z2 M2 => none = r ∧ z = z2 ∧ mfr B [53, 54] [43, 44, 45, 46, 47, 48] M0 M2 ∧ mcR M2 B (coAd t iD ht_ cs1 (txO t)) ∧ fdB M2 B 54 = some (.int (-1))) 0 0 70 [(7, .int (nI i)), (6, .int (nI (txI t))), (0, .ref B), (1, .ref b), (2, .int (nI at_)), (3, .long iD), (5, .int (nI ht_))] [] z M := by
  intro k
  induction k using Nat.strongRecOn with
  | ind k ih =>
  intro i M hk hi hfr h h54
  obtain ⟨w1, w2, w3, w4, w5⟩ := txW_sz hW
  have hB1 : M b = .inl (1, n, .inl f) := (hfr.1 b hbo).trans hB
  have hlen := coAd_len t iD ht_ cs1 i
  obtain ⟨⟨fs, hO, hF⟩, hs53, hle, f1, f2, f3, f4, f5, f6, g1, g2, g3, g4, g5, g6, hX⟩ := id h
  rw [fdB_of hO] at hs53
  refine hz_bytes hB1 hb8 hbz (fun hby => ?_)
  have hf0 : bb (f at_) = txI t := by rw [show at_ = at_ + 0 from rfl, ht 0 (by omega)]; rfl
  refine hz_iload (pc := 70) 0 (hz_dec kX12_spendOf 37 rfl) rfl ?_
  refine hz_aloadn (pc := 72) 3 (hz_dec kX12_spendOf 38 rfl) rfl ?_
  refine hz_iloadn (pc := 73) 4 (hz_dec kX12_spendOf 39 rfl) rfl ?_
  refine hz_xS (pc := 74) (As := [.ref b, .int (nI at_)]) (st := [.int (nI i)]) (hz_dec kX12_spendOf 40 rfl) co_X12_495 sc_X12_outputsOf (c_moutputsOf hB1 hb8 hbz (by omega) (by omega)) rfl (by decide) ⟨Nat.le_refl _, Nat.le_refl _⟩ (Nat.le_of_ble_eq_true rfl) rfl ?_
  refine hz_eqi (pc := 77) (show _ = nI (txO t) from mb_bb (hby _ (by omega)) (by rw [ht 1 (by omega)]; rfl) (by omega)) ?_
  refine hz_n_ge (pc := 77) (tgt := 189) (hz_dec kX12_spendOf 41 rfl) (by decide) (by omega) (by omega) (fun h1 => ?_) (fun h1 => ?_)
  · skip
    have e : i = txO t := by omega
    subst e
    exact hz_vret (pc := 189) (hz_dec kX12_spendOf 101 rfl) rfl ⟨rfl, rfl, hfr, h, h54⟩
  · skip
    refine hz_aloadn (pc := 80) 3 (hz_dec kX12_spendOf 42 rfl) rfl ?_
    refine hz_iloadn (pc := 81) 4 (hz_dec kX12_spendOf 43 rfl) rfl ?_
    refine hz_iload (pc := 82) 0 (hz_dec kX12_spendOf 44 rfl) rfl ?_
    refine hz_xS (pc := 84) (As := [.ref b, .int (nI at_), .int (nI i)]) (st := []) (hz_dec kX12_spendOf 45 rfl) co_X12_498 sc_X12_outputAt (c_moutputAt hB1 hb8 hbz (by omega) (by omega) (by omega)) rfl (by decide) ⟨Nat.le_refl _, Nat.le_refl _⟩ (Nat.le_of_ble_eq_true rfl) rfl ?_
    refine hz_eqi (pc := 87) (show _ = nI (at_ + ouA t i) by rw [hf0]; unfold ouA; congr 1; omega) ?_
    have ho : ouA t i + 16 ≤ t.length := by unfold ouA; omega
    refine hz_istore (pc := 87) (i := 8) (lo2 := [(8, .int (nI (at_ + ouA t i))), (7, .int (nI i)), (6, .int (nI (txI t))), (0, .ref B), (1, .ref b), (2, .int (nI at_)), (3, .long iD), (5, .int (nI ht_))]) (hz_dec kX12_spendOf 46 rfl) (by decide) rfl ?_
    refine hz_aloadn (pc := 89) 3 (hz_dec kX12_spendOf 47 rfl) rfl ?_
    refine hz_get (pc := 90) (v := .ref (B + 43)) (hz_dec kX12_spendOf 48 rfl) fo_X12_140 hO h8 (by omega) (hF.2 47 (by decide) (by decide)) ?_
    refine hz_aloadn (pc := 93) 3 (hz_dec kX12_spendOf 49 rfl) rfl ?_
    refine hz_get (pc := 94) (v := .int (nI ((coAd t iD ht_ cs1 i).length))) (hz_dec kX12_spendOf 50 rfl) fo_X12_479 hO h8 (by omega) hs53 ?_
    refine hz_lloadn (pc := 97) 6 (hz_dec kX12_spendOf 51 rfl) rfl ?_
    refine hz_last (pc := 98) (j := (coAd t iD ht_ cs1 i).length) (hz_dec kX12_spendOf 52 rfl) g1 (by omega) (by omega) rfl (by omega) (by decide) ?_
    refine hz_aloadn (pc := 99) 3 (hz_dec kX12_spendOf 53 rfl) rfl ?_
    refine hz_get (pc := 100) (v := .ref (B + 44)) (hz_dec kX12_spendOf 54 rfl) fo_X12_143 (hz_mne hO (by omega)) h8 (by omega) (hF.2 48 (by decide) (by decide)) ?_
    refine hz_aloadn (pc := 103) 3 (hz_dec kX12_spendOf 55 rfl) rfl ?_
    refine hz_get (pc := 104) (v := .int (nI ((coAd t iD ht_ cs1 i).length))) (hz_dec kX12_spendOf 56 rfl) fo_X12_479 (hz_mne hO (by omega)) h8 (by omega) hs53 ?_
    refine hz_iload (pc := 107) 1 (hz_dec kX12_spendOf 57 rfl) rfl ?_
    refine hz_iast (pc := 109) (j := (coAd t iD ht_ cs1 i).length) (hz_dec kX12_spendOf 58 rfl) (hz_mne g2 (by omega)) (by omega) (by omega) rfl (by omega) (by decide) ?_
    refine hz_aloadn (pc := 110) 3 (hz_dec kX12_spendOf 59 rfl) rfl ?_
    refine hz_get (pc := 111) (v := .ref (B + 45)) (hz_dec kX12_spendOf 60 rfl) fo_X12_146 (hz_mne (hz_mne hO (by omega)) (by omega)) h8 (by omega) (hF.2 49 (by decide) (by decide)) ?_
    refine hz_aloadn (pc := 114) 3 (hz_dec kX12_spendOf 61 rfl) rfl ?_
    refine hz_get (pc := 115) (v := .int (nI ((coAd t iD ht_ cs1 i).length))) (hz_dec kX12_spendOf 62 rfl) fo_X12_479 (hz_mne (hz_mne hO (by omega)) (by omega)) h8 (by omega) hs53 ?_
    refine hz_aloadn (pc := 118) 4 (hz_dec kX12_spendOf 63 rfl) rfl ?_
    refine hz_iload (pc := 119) 0 (hz_dec kX12_spendOf 64 rfl) rfl ?_
    refine hz_xS (pc := 121) (As := [.ref b, .int (nI (at_ + ouA t i))]) (st := [.int (nI ((coAd t iD ht_ cs1 i).length)), .ref (B + 45)]) (hz_dec kX12_spendOf 65 rfl) co_X12_330 sc_X12_longAt (c_longAt (hz_mne (hz_mne hB1 (hbo _ (by decide))) (hbo _ (by decide))) hb8 hbz (by omega) (by omega)) rfl (by decide) ⟨Nat.le_refl _, Nat.le_refl _⟩ (Nat.le_of_ble_eq_true rfl) rfl ?_
    refine hz_eql (pc := 124) (num_of ht (by omega)) ?_
    refine hz_last (pc := 124) (j := (coAd t iD ht_ cs1 i).length) (hz_dec kX12_spendOf 66 rfl) (hz_mne (hz_mne g3 (by omega)) (by omega)) (by omega) (by omega) rfl (by omega) (by decide) ?_
    refine hz_aloadn (pc := 125) 3 (hz_dec kX12_spendOf 67 rfl) rfl ?_
    refine hz_get (pc := 126) (v := .ref (B + 46)) (hz_dec kX12_spendOf 68 rfl) fo_X12_149 (hz_mne (hz_mne (hz_mne hO (by omega)) (by omega)) (by omega)) h8 (by omega) (hF.2 50 (by decide) (by decide)) ?_
    refine hz_aloadn (pc := 129) 3 (hz_dec kX12_spendOf 69 rfl) rfl ?_
    refine hz_get (pc := 130) (v := .int (nI ((coAd t iD ht_ cs1 i).length))) (hz_dec kX12_spendOf 70 rfl) fo_X12_479 (hz_mne (hz_mne (hz_mne hO (by omega)) (by omega)) (by omega)) h8 (by omega) hs53 ?_
    refine hz_aloadn (pc := 133) 4 (hz_dec kX12_spendOf 71 rfl) rfl ?_
    refine hz_iload (pc := 134) 0 (hz_dec kX12_spendOf 72 rfl) rfl ?_
    refine hz_bipush (pc := 136) (v := nI 8) (hz_dec kX12_spendOf 73 rfl) (by decide) ?_
    refine hz_addN (pc := 138) (hz_dec kX12_spendOf 74 rfl) ?_
    refine hz_xS (pc := 139) (As := [.ref b, .int (nI ((at_ + ouA t i) + 8))]) (st := [.int (nI ((coAd t iD ht_ cs1 i).length)), .ref (B + 46)]) (hz_dec kX12_spendOf 75 rfl) co_X12_330 sc_X12_longAt (c_longAt (hz_mne (hz_mne (hz_mne hB1 (hbo _ (by decide))) (hbo _ (by decide))) (hbo _ (by decide))) hb8 hbz (by omega) (by omega)) rfl (by decide) ⟨Nat.le_refl _, Nat.le_refl _⟩ (Nat.le_of_ble_eq_true rfl) rfl ?_
    refine hz_eql (pc := 142) (show _ = bn_num (lf t) (ouA t i + 8) 8 by rw [Nat.add_assoc]; exact num_of ht (by omega)) ?_
    refine hz_last (pc := 142) (j := (coAd t iD ht_ cs1 i).length) (hz_dec kX12_spendOf 76 rfl) (hz_mne (hz_mne (hz_mne g4 (by omega)) (by omega)) (by omega)) (by omega) (by omega) rfl (by omega) (by decide) ?_
    refine hz_aloadn (pc := 143) 3 (hz_dec kX12_spendOf 77 rfl) rfl ?_
    refine hz_get (pc := 144) (v := .ref (B + 47)) (hz_dec kX12_spendOf 78 rfl) fo_X12_152 (hz_mne (hz_mne (hz_mne (hz_mne hO (by omega)) (by omega)) (by omega)) (by omega)) h8 (by omega) (hF.2 51 (by decide) (by decide)) ?_
    refine hz_aloadn (pc := 147) 3 (hz_dec kX12_spendOf 79 rfl) rfl ?_
    refine hz_get (pc := 148) (v := .int (nI ((coAd t iD ht_ cs1 i).length))) (hz_dec kX12_spendOf 80 rfl) fo_X12_479 (hz_mne (hz_mne (hz_mne (hz_mne hO (by omega)) (by omega)) (by omega)) (by omega)) h8 (by omega) hs53 ?_
    refine hz_iload (pc := 151) 7 (hz_dec kX12_spendOf 81 rfl) rfl ?_
    refine hz_iast (pc := 153) (j := (coAd t iD ht_ cs1 i).length) (hz_dec kX12_spendOf 82 rfl) (hz_mne (hz_mne (hz_mne (hz_mne g5 (by omega)) (by omega)) (by omega)) (by omega)) (by omega) (by omega) rfl (by omega) (by decide) ?_
    refine hz_aloadn (pc := 154) 3 (hz_dec kX12_spendOf 83 rfl) rfl ?_
    refine hz_get (pc := 155) (v := .ref (B + 48)) (hz_dec kX12_spendOf 84 rfl) fo_X12_155 (hz_mne (hz_mne (hz_mne (hz_mne (hz_mne hO (by omega)) (by omega)) (by omega)) (by omega)) (by omega)) h8 (by omega) (hF.2 52 (by decide) (by decide)) ?_
    refine hz_aloadn (pc := 158) 3 (hz_dec kX12_spendOf 85 rfl) rfl ?_
    refine hz_get (pc := 159) (v := .int (nI ((coAd t iD ht_ cs1 i).length))) (hz_dec kX12_spendOf 86 rfl) fo_X12_479 (hz_mne (hz_mne (hz_mne (hz_mne (hz_mne hO (by omega)) (by omega)) (by omega)) (by omega)) (by omega)) h8 (by omega) hs53 ?_
    refine hz_iload (pc := 162) 2 (hz_dec kX12_spendOf 87 rfl) rfl ?_
    refine hz_z_ne (pc := 164) (tgt := 171) (hz_dec kX12_spendOf 88 rfl) (by decide) (by omega) (fun h4 => ?_) (fun h4 => ?_)
    · skip
      refine hz_iconst (pc := 171) (v := nI 0) (hz_dec kX12_spendOf 91 rfl) (by decide) ?_
      refine hz_zast (pc := 172) (j := (coAd t iD ht_ cs1 i).length) (hz_dec kX12_spendOf 92 rfl) (hz_mne (hz_mne (hz_mne (hz_mne (hz_mne g6 (by omega)) (by omega)) (by omega)) (by omega)) (by omega)) (by omega) (by omega) rfl (by omega) (by decide) (Or.inl rfl) ?_
      refine hz_aloadn (pc := 173) 3 (hz_dec kX12_spendOf 93 rfl) rfl ?_
      refine hz_dup (pc := 174) (hz_dec kX12_spendOf 94 rfl) rfl ?_
      refine hz_get (pc := 175) (v := .int (nI ((coAd t iD ht_ cs1 i).length))) (hz_dec kX12_spendOf 95 rfl) fo_X12_479 (hz_mne (hz_mne (hz_mne (hz_mne (hz_mne (hz_mne hO (by omega)) (by omega)) (by omega)) (by omega)) (by omega)) (by omega)) h8 (by omega) hs53 ?_
      refine hz_iconst (pc := 178) (v := nI 1) (hz_dec kX12_spendOf 96 rfl) (by decide) ?_
      refine hz_addN (pc := 179) (hz_dec kX12_spendOf 97 rfl) ?_
      refine hz_puti (pc := 180) (hz_dec kX12_spendOf 98 rfl) fo_X12_479 ft_X12_53 (hz_mne (hz_mne (hz_mne (hz_mne (hz_mne (hz_mne hO (by omega)) (by omega)) (by omega)) (by omega)) (by omega)) (by omega)) h8 (by omega) (by rw [hF.1]; decide) ?_
      have fr9 : mfr B [53] [43, 44, 45, 46, 47, 48] M (va_up (va_up (va_up (va_up (va_up (va_up (va_up M (B + 43) (.inl (2, 5000, .inr (.inl (vp_updL f1 ((coAd t iD ht_ cs1 i).length) (iD)))))) (B + 44) (.inl (0, 5000, .inl (upd f2 ((coAd t iD ht_ cs1 i).length) ((nI (i))))))) (B + 45) (.inl (2, 5000, .inr (.inl (vp_updL f3 ((coAd t iD ht_ cs1 i).length) (bn_num (lf t) (ouA t i) 8)))))) (B + 46) (.inl (2, 5000, .inr (.inl (vp_updL f4 ((coAd t iD ht_ cs1 i).length) (bn_num (lf t) (ouA t i + 8) 8)))))) (B + 47) (.inl (0, 5000, .inl (upd f5 ((coAd t iD ht_ cs1 i).length) ((nI (ht_))))))) (B + 48) (.inl (3, 5000, .inl (upd f6 ((coAd t iD ht_ cs1 i).length) ((nI (0))))))) B (.inr (12, (List.set fs 53 (.int (nI (((coAd t iD ht_ cs1 i).length) + 1))))))) := ((((((((mfr.rf (ks := [53]) (os := [43, 44, 45, 46, 47, 48]) hfr.2.1).upA (o := 43) rfl (by decide)).upA (o := 44) rfl (by decide)).upA (o := 45) rfl (by decide)).upA (o := 46) rfl (by decide)).upA (o := 47) rfl (by decide)).upA (o := 48) rfl (by decide)).upO (k := 53) (hz_mne (hz_mne (hz_mne (hz_mne (hz_mne (hz_mne hO (by omega)) (by omega)) (by omega)) (by omega)) (by omega)) (by omega)) hF rfl rfl)
      refine hz_incN (pc := 183) (i := 7) (lo2 := [(7, .int (nI (i + 1))), (8, .int (nI (at_ + ouA t i))), (6, .int (nI (txI t))), (0, .ref B), (1, .ref b), (2, .int (nI at_)), (3, .long iD), (5, .int (nI ht_))]) 1 (hz_dec kX12_spendOf 99 rfl) rfl (by decide) rfl ?_
      refine hz_goto (pc := 186) (tgt := 70) (hz_dec kX12_spendOf 100 rfl) (by decide) ?_
      refine hz_pick (pc := 70) [0, 2, 3, 4, 5, 6, 7] rfl ?_
      refine ih (txO t - (i + 1)) (by omega) (i + 1) _ rfl (by omega) (hfr.tr (fr9.mono rfl rfl)) ⟨⟨_, va_up_self _ _ _, md_set hF rfl⟩, ?_, by rw [coAd_len]; omega, _, _, _, _, _, _, (hz_mne (hz_mne (hz_mne (hz_mne (hz_mne (hz_mne (va_up_self _ _ _) (by omega)) (by omega)) (by omega)) (by omega)) (by omega)) (by omega)), (hz_mne (hz_mne (hz_mne (hz_mne (hz_mne (va_up_self _ _ _) (by omega)) (by omega)) (by omega)) (by omega)) (by omega)), (hz_mne (hz_mne (hz_mne (hz_mne (va_up_self _ _ _) (by omega)) (by omega)) (by omega)) (by omega)), (hz_mne (hz_mne (hz_mne (va_up_self _ _ _) (by omega)) (by omega)) (by omega)), (hz_mne (hz_mne (va_up_self _ _ _) (by omega)) (by omega)), (hz_mne (va_up_self _ _ _) (by omega)), coX_app hX rfl rfl ?_⟩ ((fr9.2.2 54 rfl).trans h54)
      · rw [fdB_of (va_up_self _ _ _), List.getElem?_set_self (by rw [hF.1]; decide)]
        show _ = some (Value.int (nI (coAd t iD ht_ cs1 i ++ [_]).length))
        rw [List.length_append]
        rfl
      · rw [decide_eq_false (by omega)]; rfl
    · skip
      refine hz_iconst (pc := 167) (v := nI 1) (hz_dec kX12_spendOf 89 rfl) (by decide) ?_
      refine hz_goto (pc := 168) (tgt := 172) (hz_dec kX12_spendOf 90 rfl) (by decide) ?_
      refine hz_zast (pc := 172) (j := (coAd t iD ht_ cs1 i).length) (hz_dec kX12_spendOf 92 rfl) (hz_mne (hz_mne (hz_mne (hz_mne (hz_mne g6 (by omega)) (by omega)) (by omega)) (by omega)) (by omega)) (by omega) (by omega) rfl (by omega) (by decide) (Or.inr rfl) ?_
      refine hz_aloadn (pc := 173) 3 (hz_dec kX12_spendOf 93 rfl) rfl ?_
      refine hz_dup (pc := 174) (hz_dec kX12_spendOf 94 rfl) rfl ?_
      refine hz_get (pc := 175) (v := .int (nI ((coAd t iD ht_ cs1 i).length))) (hz_dec kX12_spendOf 95 rfl) fo_X12_479 (hz_mne (hz_mne (hz_mne (hz_mne (hz_mne (hz_mne hO (by omega)) (by omega)) (by omega)) (by omega)) (by omega)) (by omega)) h8 (by omega) hs53 ?_
      refine hz_iconst (pc := 178) (v := nI 1) (hz_dec kX12_spendOf 96 rfl) (by decide) ?_
      refine hz_addN (pc := 179) (hz_dec kX12_spendOf 97 rfl) ?_
      refine hz_puti (pc := 180) (hz_dec kX12_spendOf 98 rfl) fo_X12_479 ft_X12_53 (hz_mne (hz_mne (hz_mne (hz_mne (hz_mne (hz_mne hO (by omega)) (by omega)) (by omega)) (by omega)) (by omega)) (by omega)) h8 (by omega) (by rw [hF.1]; decide) ?_
      have fr9 : mfr B [53] [43, 44, 45, 46, 47, 48] M (va_up (va_up (va_up (va_up (va_up (va_up (va_up M (B + 43) (.inl (2, 5000, .inr (.inl (vp_updL f1 ((coAd t iD ht_ cs1 i).length) (iD)))))) (B + 44) (.inl (0, 5000, .inl (upd f2 ((coAd t iD ht_ cs1 i).length) ((nI (i))))))) (B + 45) (.inl (2, 5000, .inr (.inl (vp_updL f3 ((coAd t iD ht_ cs1 i).length) (bn_num (lf t) (ouA t i) 8)))))) (B + 46) (.inl (2, 5000, .inr (.inl (vp_updL f4 ((coAd t iD ht_ cs1 i).length) (bn_num (lf t) (ouA t i + 8) 8)))))) (B + 47) (.inl (0, 5000, .inl (upd f5 ((coAd t iD ht_ cs1 i).length) ((nI (ht_))))))) (B + 48) (.inl (3, 5000, .inl (upd f6 ((coAd t iD ht_ cs1 i).length) ((nI (1))))))) B (.inr (12, (List.set fs 53 (.int (nI (((coAd t iD ht_ cs1 i).length) + 1))))))) := ((((((((mfr.rf (ks := [53]) (os := [43, 44, 45, 46, 47, 48]) hfr.2.1).upA (o := 43) rfl (by decide)).upA (o := 44) rfl (by decide)).upA (o := 45) rfl (by decide)).upA (o := 46) rfl (by decide)).upA (o := 47) rfl (by decide)).upA (o := 48) rfl (by decide)).upO (k := 53) (hz_mne (hz_mne (hz_mne (hz_mne (hz_mne (hz_mne hO (by omega)) (by omega)) (by omega)) (by omega)) (by omega)) (by omega)) hF rfl rfl)
      refine hz_incN (pc := 183) (i := 7) (lo2 := [(7, .int (nI (i + 1))), (8, .int (nI (at_ + ouA t i))), (6, .int (nI (txI t))), (0, .ref B), (1, .ref b), (2, .int (nI at_)), (3, .long iD), (5, .int (nI ht_))]) 1 (hz_dec kX12_spendOf 99 rfl) rfl (by decide) rfl ?_
      refine hz_goto (pc := 186) (tgt := 70) (hz_dec kX12_spendOf 100 rfl) (by decide) ?_
      refine hz_pick (pc := 70) [0, 2, 3, 4, 5, 6, 7] rfl ?_
      refine ih (txO t - (i + 1)) (by omega) (i + 1) _ rfl (by omega) (hfr.tr (fr9.mono rfl rfl)) ⟨⟨_, va_up_self _ _ _, md_set hF rfl⟩, ?_, by rw [coAd_len]; omega, _, _, _, _, _, _, (hz_mne (hz_mne (hz_mne (hz_mne (hz_mne (hz_mne (va_up_self _ _ _) (by omega)) (by omega)) (by omega)) (by omega)) (by omega)) (by omega)), (hz_mne (hz_mne (hz_mne (hz_mne (hz_mne (va_up_self _ _ _) (by omega)) (by omega)) (by omega)) (by omega)) (by omega)), (hz_mne (hz_mne (hz_mne (hz_mne (va_up_self _ _ _) (by omega)) (by omega)) (by omega)) (by omega)), (hz_mne (hz_mne (hz_mne (va_up_self _ _ _) (by omega)) (by omega)) (by omega)), (hz_mne (hz_mne (va_up_self _ _ _) (by omega)) (by omega)), (hz_mne (va_up_self _ _ _) (by omega)), coX_app hX rfl rfl ?_⟩ ((fr9.2.2 54 rfl).trans h54)
      · rw [fdB_of (va_up_self _ _ _), List.getElem?_set_self (by rw [hF.1]; decide)]
        show _ = some (Value.int (nI (coAd t iD ht_ cs1 i ++ [_]).length))
        rw [List.length_append]
        rfl
      · rw [decide_eq_true h4]; rfl
set_option maxHeartbeats 4000000 in
set_option maxRecDepth 100000 in
theorem c_mcSp {κ : hz_C} {z : Nat} {M : hz_M} {B : Nat} {cs : List co_C} (h : mcR M B cs) (h8 : 8 ≤ B) (hz : B + 88 ≤ z) {b n at_ : Nat} {f : Nat → Int32} {t : by_L} (hB : M b = .inl (1, n, .inl f)) (hb8 : 8 ≤ b) (hbz : b < z) (hn : n < 2 ^ 29) (ht : isA f at_ t) (hat : at_ + t.length ≤ n) (hW : txW t) (hbo : ∀ o ∈ (0 :: [43, 44, 45, 46, 47, 48]), b ≠ B + o) {iD : Int64} {ht_ : Nat} (hrm : cs.length + 4 ≤ 4000) : hz_Mt κ xX12_spendOf 2 0 0 [.ref B, .ref b, .int (nI at_), .long iD, .int (nI ht_)] z M (fun r z2 M2 => none = r ∧ z = z2 ∧ mfr B [53, 54] [43, 44, 45, 46, 47, 48] M M2 ∧ mcR M2 B (coAp cs t iD ht_) ∧ fdB M2 B 54 = some (.int (-1))) := by
  refine hz_ent (lo := [(0, .ref B), (1, .ref b), (2, .int (nI at_)), (3, .long iD), (5, .int (nI ht_))]) (by decide) (Nat.le_of_ble_eq_true rfl) rfl ?_
  obtain ⟨w1, w2, w3, w4, w5⟩ := txW_sz hW
  obtain ⟨⟨fs, hO, hF⟩, hs53, hle, f1, f2, f3, f4, f5, f6, g1, g2, g3, g4, g5, g6, hX⟩ := id h
  rw [fdB_of hO] at hs53
  refine hz_aloadn (pc := 0) 0 (hz_dec kX12_spendOf 0 rfl) rfl ?_
  refine hz_iconst (pc := 1) (v := (-1)) (hz_dec kX12_spendOf 1 rfl) (by decide) ?_
  refine hz_topi (pc := 2) (fun y1 ey1 => ?_)
  refine hz_puti (pc := 2) (hz_dec kX12_spendOf 2 rfl) fo_X12_158 ft_X12_54 hO h8 (by omega) (by rw [hF.1]; decide) ?_
  refine hz_aloadn (pc := 5) 1 (hz_dec kX12_spendOf 3 rfl) rfl ?_
  refine hz_iloadn (pc := 6) 2 (hz_dec kX12_spendOf 4 rfl) rfl ?_
  refine hz_bytes (hz_mne hB (fun e9 => hbo 0 (by decide) e9)) hb8 hbz (fun hby => ?_)
  refine hz_xS (pc := 7) (As := [.ref b, .int (nI at_)]) (st := []) (hz_dec kX12_spendOf 5 rfl) co_X12_482 sc_X12_inputsOf (c_minputsOf (hz_mne hB (fun e9 => hbo 0 (by decide) e9)) hb8 hbz (by omega) (by omega)) rfl (by decide) ⟨Nat.le_refl _, Nat.le_refl _⟩ (Nat.le_of_ble_eq_true rfl) rfl ?_
  refine hz_eqi (pc := 10) (show _ = nI (txI t) from mb_bb (hby _ (by omega)) (by rw [show at_ = at_ + 0 from rfl, ht 0 (by omega)]; rfl) (by omega)) ?_
  refine hz_istore (pc := 10) (i := 6) (lo2 := [(6, .int (nI (txI t))), (0, .ref B), (1, .ref b), (2, .int (nI at_)), (3, .long iD), (5, .int (nI ht_))]) (hz_dec kX12_spendOf 6 rfl) (by decide) rfl ?_
  refine hz_iconst (pc := 12) (v := nI 0) (hz_dec kX12_spendOf 7 rfl) (by decide) ?_
  refine hz_istore (pc := 13) (i := 7) (lo2 := [(7, .int (nI 0)), (6, .int (nI (txI t))), (0, .ref B), (1, .ref b), (2, .int (nI at_)), (3, .long iD), (5, .int (nI ht_))]) (hz_dec kX12_spendOf 8 rfl) (by decide) rfl ?_
  refine hz_pick (pc := 15) [0, 1, 2, 3, 4, 5, 6] rfl ?_
  have hf0 : mfr B [53, 54] [43, 44, 45, 46, 47, 48] M (va_up M B (.inr (12, (List.set fs 54 (.int y1))))) := (mfr.rf ⟨fs, hO, hF⟩).upO hO hF rfl rfl
  have h540 : fdB (va_up M B (.inr (12, (List.set fs 54 (.int y1))))) B 54 = some (.int (-1)) := by rw [fdB_of (va_up_self _ _ _), List.getElem?_set_self (by rw [hF.1]; decide), ey1]
  refine c_mcSp_1 (M0 := M) (cs0 := cs) h8 hz hB hb8 hbz hn ht hat hW hbo (fun M1 hf1 h1 h541 => ?_) (txI t) 0 _ rfl (by omega) hf0 (h.fr ((mfr.rf (ks := [54]) (os := []) ⟨fs, hO, hF⟩).upO hO hF rfl rfl) rfl rfl) h540
  refine hz_iconst (pc := 67) (v := nI 0) (hz_dec kX12_spendOf 35 rfl) (by decide) ?_
  refine hz_istore (pc := 68) (i := 7) (lo2 := [(7, .int (nI 0)), (6, .int (nI (txI t))), (0, .ref B), (1, .ref b), (2, .int (nI at_)), (3, .long iD), (5, .int (nI ht_))]) (hz_dec kX12_spendOf 36 rfl) (by decide) rfl ?_
  refine hz_pick (pc := 70) [0, 1, 2, 3, 4, 5, 6] rfl ?_
  have hlen := coSp_len t cs (txI t)
  exact c_mcSp_2 (M0 := M) (cs1 := coSp t cs (txI t)) h8 hz hB hb8 hbz hn ht hat hW hbo (by omega) (txO t) 0 M1 rfl (by omega) hf1 h1 h541
