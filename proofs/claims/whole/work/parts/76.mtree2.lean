/-! the reference: blocks of a node; searches; dueBehind -/
def nbX (fa : Nat → Nat → Int32) (fl : Nat → Nat → Int64) (v : Nat) (bl : List bk_B) (tip : Nat) : Prop := fa 20 v = nI bl.length ∧ fa 21 v = nI tip ∧ ∀ k, k < bl.length →
  fa 25 (128 * v + k) = nI (bBy bl k).length ∧ isA (fa 30) (32 * (128 * v + k)) (haS (bBy bl k)) ∧ bg (fa 31) (9 * (128 * v + k)) 9 = bTo bl k ∧ fa 32 (128 * v + k) = nI (bkN (bBy bl k)) ∧ (∀ j, j < bkN (bBy bl k) → fl 33 (8 * (128 * v + k) + j) = idS (bkT (bBy bl k) j)) ∧
  ((fa 24 (128 * v + k) = -1 ∧ isA (fa 34) 0 (bBy bl k)) ∨ ∃ p, fa 24 (128 * v + k) = nI p ∧ p + 2 + (bBy bl k).length ≤ 12288 ∧ isA (fa 51) (12288 * v + p + 2) (bBy bl k))
theorem rx_lt {nb y : Nat} (h : y < nb) : rx nb y = y := if_pos h
theorem bg_gt {f g : Nat → Int32} {a b n i : Nat} (h : ∀ j, j < i → f (a + j) = g (b + j)) (hi : i < n) (hl : un (g (b + i)) < un (f (a + i))) : bg g b n < bg f a n := by
  have q := bg_less (f := g) (g := f) (a := b) (b := a) (k := i + 1) (by simp only [bg, bg_c i h]; omega) (n - (i + 1))
  rw [show i + 1 + (n - (i + 1)) = n by omega] at q
  exact q
set_option maxHeartbeats 4000000 in
set_option maxRecDepth 100000 in
theorem c_mfB_l {κ : hz_C} {z : Nat} {M : hz_M} {B : Nat} (hO_ : md_O M B) (hE : mdE M B) (h8 : 8 ≤ B) (hz : B + 88 ≤ z) {v tip : Nat} {bl : List bk_B} (hv : v < 6) (hnb : bl.length ≤ 128) (hN : nbX (fA M B) (fL M B) v bl tip) {b n at_ : Nat} {f : Nat → Int32} {s : by_L} (hB : M b = .inl (1, n, .inl f)) (hb8 : 8 ≤ b) (hbz : b < z) (hn : n < 2 ^ 29) (hs : isA f at_ s) (hs32 : s.length = 32) (hat : at_ + 32 ≤ n) : ∀ k i, k = bl.length - i → i ≤ bl.length → (∀ j, j < i → smS (haS (bBy bl j)) s = false) → hz_W κ xX12_findBlock 1 0 0 (hz_ex (some (.int (ixI (blF bl s) bl.length))) z M) 0 0 3 [(4, .int (nI i)), (0, .ref B), (1, .int (nI v)), (2, .ref b), (3, .int (nI at_))] [] z M := by
  intro k
  induction k using Nat.strongRecOn with
  | ind k ih =>
  intro i hk hi hno
  obtain ⟨fs, hO, hF⟩ := id hO_
  refine hz_iload (pc := 3) 0 (hz_dec kX12_findBlock 2 rfl) rfl ?_
  refine hz_aloadn (pc := 5) 1 (hz_dec kX12_findBlock 3 rfl) rfl ?_
  refine hz_get (pc := 6) (v := .ref (B + 20)) (hz_dec kX12_findBlock 4 rfl) fo_X12_71 hO h8 (by omega) (hF.2 22 (by decide) (by decide)) ?_
  refine hz_iloadn (pc := 9) 2 (hz_dec kX12_findBlock 5 rfl) rfl ?_
  refine hz_iald (pc := 10) (j := v) (hz_dec kX12_findBlock 6 rfl) hE.a20 (by omega) (by omega) rfl (by omega) (by decide) ?_
  refine hz_eqi (pc := 11) hN.1 ?_
  refine hz_n_ge (pc := 11) (tgt := 46) (hz_dec kX12_findBlock 7 rfl) (by decide) (by omega) (by omega) (fun h1 => ?_) (fun h1 => ?_)
  · skip
    have e : i = bl.length := by omega
    subst e
    refine hz_iconst (pc := 46) (v := (-1)) (hz_dec kX12_findBlock 24 rfl) (by decide) ?_
    refine hz_iret (pc := 47) (hz_dec kX12_findBlock 25 rfl) rfl ⟨?_, rfl, rfl⟩
    unfold ixI blF
    rw [fsI_no (p := fun k => smS (haS (bBy bl k)) s) _ hno, if_neg (by omega)]
  · skip
    refine hz_aloadn (pc := 14) 1 (hz_dec kX12_findBlock 8 rfl) rfl ?_
    refine hz_get (pc := 15) (v := .ref (B + 30)) (hz_dec kX12_findBlock 9 rfl) fo_X12_101 hO h8 (by omega) (hF.2 32 (by decide) (by decide)) ?_
    refine hz_bipush (pc := 18) (v := nI 32) (hz_dec kX12_findBlock 10 rfl) (by decide) ?_
    refine hz_iloadn (pc := 20) 2 (hz_dec kX12_findBlock 11 rfl) rfl ?_
    refine hz_iload (pc := 21) 0 (hz_dec kX12_findBlock 12 rfl) rfl ?_
    refine hz_xS (pc := 23) (As := [.int (nI v), .int (nI i)]) (st := [.int (nI 32), .ref (B + 30)]) (hz_dec kX12_findBlock 13 rfl) co_X12_419 sc_X12_at0 (c_at0) rfl (by decide) ⟨Nat.le_refl _, Nat.le_refl _⟩ (Nat.le_of_ble_eq_true rfl) rfl ?_
    refine hz_mulN (pc := 26) (hz_dec kX12_findBlock 14 rfl) ?_
    refine hz_aloadn (pc := 27) 3 (hz_dec kX12_findBlock 15 rfl) rfl ?_
    refine hz_iloadn (pc := 28) 4 (hz_dec kX12_findBlock 16 rfl) rfl ?_
    refine hz_bipush (pc := 29) (v := nI 32) (hz_dec kX12_findBlock 17 rfl) (by decide) ?_
    refine hz_xS (pc := 31) (As := [.ref (B + 30), .int (nI (32 * (128 * v + i))), .ref b, .int (nI at_), .int (nI 32)]) (st := []) (hz_dec kX12_findBlock 18 rfl) co_X12_456 sc_X12_sameBytes (c_sameB hE.a30 (by omega) (by omega) (by decide) hB hb8 hbz (by omega) (by omega) hat) rfl (by decide) ⟨Nat.le_refl _, Nat.le_refl _⟩ (Nat.le_of_ble_eq_true rfl) rfl ?_
    refine hz_eqi (pc := 34) (show _ = hz_b (smS (haS (bBy bl i)) s) by rw [smS_of (hN.2.2 i (by omega)).2.1 hs (haS_len _) hs32]) ?_
    refine hz_if_eq (pc := 34) (tgt := 40) (hz_dec kX12_findBlock 19 rfl) (by decide) (fun h2 => ?_) (fun h2 => ?_)
    · skip
      refine hz_incN (pc := 40) (i := 4) (lo2 := [(4, .int (nI (i + 1))), (0, .ref B), (1, .int (nI v)), (2, .ref b), (3, .int (nI at_))]) 0 (hz_dec kX12_findBlock 22 rfl) rfl (by decide) rfl ?_
      refine hz_goto (pc := 43) (tgt := 3) (hz_dec kX12_findBlock 23 rfl) (by decide) ?_
      refine hz_pick (pc := 3) [0, 1, 2, 3, 4] rfl ?_
      refine ih (bl.length - (i + 1)) (by omega) (i + 1) rfl (by omega) (fun j hj => ?_)
      rcases (show j = i ∨ j < i by omega) with rfl | c
      · exact hz_b0 h2
      · exact hno j c
    · skip
      refine hz_iload (pc := 37) 0 (hz_dec kX12_findBlock 20 rfl) rfl ?_
      refine hz_iret (pc := 39) (hz_dec kX12_findBlock 21 rfl) rfl ⟨?_, rfl, rfl⟩
      unfold ixI blF
      rw [fsI_at (i := i) (p := fun k => smS (haS (bBy bl k)) s) (hz_b1 h2) hno _ (by omega), if_pos (by omega)]
set_option maxHeartbeats 4000000 in
set_option maxRecDepth 100000 in
theorem c_mfB {κ : hz_C} {z : Nat} {M : hz_M} {B : Nat} (hO_ : md_O M B) (hE : mdE M B) (h8 : 8 ≤ B) (hz : B + 88 ≤ z) {v tip : Nat} {bl : List bk_B} (hv : v < 6) (hnb : bl.length ≤ 128) (hN : nbX (fA M B) (fL M B) v bl tip) {b n at_ : Nat} {f : Nat → Int32} {s : by_L} (hB : M b = .inl (1, n, .inl f)) (hb8 : 8 ≤ b) (hbz : b < z) (hn : n < 2 ^ 29) (hs : isA f at_ s) (hs32 : s.length = 32) (hat : at_ + 32 ≤ n) : hz_Mt κ xX12_findBlock 1 0 0 [.ref B, .int (nI v), .ref b, .int (nI at_)] z M (hz_ex (some (.int (ixI (blF bl s) bl.length))) z M) := by
  refine hz_ent (lo := [(0, .ref B), (1, .int (nI v)), (2, .ref b), (3, .int (nI at_))]) (by decide) (Nat.le_of_ble_eq_true rfl) rfl ?_
  refine hz_iconst (pc := 0) (v := nI 0) (hz_dec kX12_findBlock 0 rfl) (by decide) ?_
  refine hz_istore (pc := 1) (i := 4) (lo2 := [(4, .int (nI 0)), (0, .ref B), (1, .int (nI v)), (2, .ref b), (3, .int (nI at_))]) (hz_dec kX12_findBlock 1 rfl) (by decide) rfl ?_
  refine hz_pick (pc := 3) [0, 1, 2, 3, 4] rfl ?_
  exact c_mfB_l hO_ hE h8 hz hv hnb hN hB hb8 hbz hn hs hs32 hat bl.length 0 rfl (by omega) (fun j hj => absurd hj (by omega))
set_option maxHeartbeats 4000000 in
set_option maxRecDepth 100000 in
theorem c_mAb_l {κ : hz_C} {z : Nat} {M : hz_M} {B : Nat} (hO_ : md_O M B) (hE : mdE M B) (h8 : 8 ≤ B) (hz : B + 88 ≤ z) {v tip : Nat} {bl : List bk_B} (hv : v < 6) (hnb : bl.length ≤ 128) (hN : nbX (fA M B) (fL M B) v bl tip) {x y : Nat} (hx : x < bl.length) (hy : y < bl.length) : ∀ k i, k = 9 - i → i ≤ 9 → (∀ j, j < i → fA M B 31 (9 * (128 * v + x) + j) = fA M B 31 (9 * (128 * v + y) + j)) → hz_W κ xX12_isAbove 1 0 0 (hz_ex (some (.int (hz_b (decide (bTo bl y < bTo bl x))))) z M) 0 0 3 [(4, .int (nI i)), (0, .ref B), (1, .int (nI v)), (2, .int (nI x)), (3, .int (nI y))] [] z M := by
  intro k
  induction k using Nat.strongRecOn with
  | ind k ih =>
  intro i hk hi hs9
  obtain ⟨fs, hO, hF⟩ := id hO_
  have tx := (hN.2.2 x hx).2.2.1
  have ty := (hN.2.2 y hy).2.2.1
  refine hz_iload (pc := 3) 0 (hz_dec kX12_isAbove 2 rfl) rfl ?_
  refine hz_bipush (pc := 5) (v := nI 9) (hz_dec kX12_isAbove 3 rfl) (by decide) ?_
  refine hz_n_ge (pc := 7) (tgt := 84) (hz_dec kX12_isAbove 4 rfl) (by decide) (by omega) (by omega) (fun h1 => ?_) (fun h1 => ?_)
  · skip
    have e : i = 9 := by omega
    subst e
    refine hz_iconst (pc := 84) (v := nI 0) (hz_dec kX12_isAbove 47 rfl) (by decide) ?_
    refine hz_zret (pc := 85) (hz_dec kX12_isAbove 48 rfl) rfl rfl ⟨?_, rfl, rfl⟩
    rw [decide_eq_false ?_]
    · rfl
    · rw [← tx, ← ty, bg_c 9 hs9]
      exact Nat.lt_irrefl _
  · skip
    have hu1 := un_lt (fA M B 31 (9 * (128 * v + x) + i))
    have hu2 := un_lt (fA M B 31 (9 * (128 * v + y) + i))
    refine hz_aloadn (pc := 10) 1 (hz_dec kX12_isAbove 5 rfl) rfl ?_
    refine hz_get (pc := 11) (v := .ref (B + 31)) (hz_dec kX12_isAbove 6 rfl) fo_X12_104 hO h8 (by omega) (hF.2 33 (by decide) (by decide)) ?_
    refine hz_bipush (pc := 14) (v := nI 9) (hz_dec kX12_isAbove 7 rfl) (by decide) ?_
    refine hz_iloadn (pc := 16) 2 (hz_dec kX12_isAbove 8 rfl) rfl ?_
    refine hz_iloadn (pc := 17) 3 (hz_dec kX12_isAbove 9 rfl) rfl ?_
    refine hz_xS (pc := 18) (As := [.int (nI v), .int (nI x)]) (st := [.int (nI 9), .ref (B + 31)]) (hz_dec kX12_isAbove 10 rfl) co_X12_419 sc_X12_at0 (c_at0) rfl (by decide) ⟨Nat.le_refl _, Nat.le_refl _⟩ (Nat.le_of_ble_eq_true rfl) rfl ?_
    refine hz_mulN (pc := 21) (hz_dec kX12_isAbove 11 rfl) ?_
    refine hz_iload (pc := 22) 0 (hz_dec kX12_isAbove 12 rfl) rfl ?_
    refine hz_addN (pc := 24) (hz_dec kX12_isAbove 13 rfl) ?_
    refine hz_iald (pc := 25) (j := (9 * (128 * v + x)) + i) (hz_dec kX12_isAbove 14 rfl) hE.a31 (by omega) (by omega) rfl (by omega) (by decide) ?_
    refine hz_i2l (pc := 26) (hz_dec kX12_isAbove 15 rfl) ?_
    refine hz_ldc2 (pc := 27) (v := (4294967295)) (hz_dec kX12_isAbove 16 rfl) ks_X12_358 ?_
    refine hz_land (pc := 30) (hz_dec kX12_isAbove 17 rfl) ?_
    refine hz_eql (pc := 31) (i_lo32 ((fA M B 31) ((9 * (128 * v + x)) + i))) ?_
    refine hz_lstore (pc := 31) (i := 5) (lo2 := [(5, .long (lN (un ((fA M B 31) ((9 * (128 * v + x)) + i))))), (4, .int (nI i)), (0, .ref B), (1, .int (nI v)), (2, .int (nI x)), (3, .int (nI y))]) (hz_dec kX12_isAbove 18 rfl) (by decide) rfl ?_
    refine hz_aloadn (pc := 33) 2 (hz_dec kX12_isAbove 19 rfl) rfl ?_
    refine hz_get (pc := 34) (v := .ref (B + 31)) (hz_dec kX12_isAbove 20 rfl) fo_X12_104 hO h8 (by omega) (hF.2 33 (by decide) (by decide)) ?_
    refine hz_bipush (pc := 37) (v := nI 9) (hz_dec kX12_isAbove 21 rfl) (by decide) ?_
    refine hz_iloadn (pc := 39) 3 (hz_dec kX12_isAbove 22 rfl) rfl ?_
    refine hz_iloadn (pc := 40) 5 (hz_dec kX12_isAbove 23 rfl) rfl ?_
    refine hz_xS (pc := 41) (As := [.int (nI v), .int (nI y)]) (st := [.int (nI 9), .ref (B + 31)]) (hz_dec kX12_isAbove 24 rfl) co_X12_419 sc_X12_at0 (c_at0) rfl (by decide) ⟨Nat.le_refl _, Nat.le_refl _⟩ (Nat.le_of_ble_eq_true rfl) rfl ?_
    refine hz_mulN (pc := 44) (hz_dec kX12_isAbove 25 rfl) ?_
    refine hz_iload (pc := 45) 1 (hz_dec kX12_isAbove 26 rfl) rfl ?_
    refine hz_addN (pc := 47) (hz_dec kX12_isAbove 27 rfl) ?_
    refine hz_iald (pc := 48) (j := (9 * (128 * v + y)) + i) (hz_dec kX12_isAbove 28 rfl) hE.a31 (by omega) (by omega) rfl (by omega) (by decide) ?_
    refine hz_i2l (pc := 49) (hz_dec kX12_isAbove 29 rfl) ?_
    refine hz_ldc2 (pc := 50) (v := (4294967295)) (hz_dec kX12_isAbove 30 rfl) ks_X12_358 ?_
    refine hz_land (pc := 53) (hz_dec kX12_isAbove 31 rfl) ?_
    refine hz_eql (pc := 54) (i_lo32 ((fA M B 31) ((9 * (128 * v + y)) + i))) ?_
    refine hz_lstore (pc := 54) (i := 7) (lo2 := [(7, .long (lN (un ((fA M B 31) ((9 * (128 * v + y)) + i))))), (5, .long (lN (un ((fA M B 31) ((9 * (128 * v + x)) + i))))), (4, .int (nI i)), (0, .ref B), (1, .int (nI v)), (2, .int (nI x)), (3, .int (nI y))]) (hz_dec kX12_isAbove 32 rfl) (by decide) rfl ?_
    refine hz_lload (pc := 56) 1 (hz_dec kX12_isAbove 33 rfl) rfl ?_
    refine hz_lload (pc := 58) 0 (hz_dec kX12_isAbove 34 rfl) rfl ?_
    refine hz_lcmp (pc := 60) (hz_dec kX12_isAbove 35 rfl) ?_
    refine hz_if_eq (pc := 61) (tgt := 78) (hz_dec kX12_isAbove 36 rfl) (by decide) (fun h2 => ?_) (fun h2 => ?_)
    · skip
      refine hz_incN (pc := 78) (i := 4) (lo2 := [(4, .int (nI (i + 1))), (7, .long (lN (un ((fA M B 31) ((9 * (128 * v + y)) + i))))), (5, .long (lN (un ((fA M B 31) ((9 * (128 * v + x)) + i))))), (0, .ref B), (1, .int (nI v)), (2, .int (nI x)), (3, .int (nI y))]) 2 (hz_dec kX12_isAbove 45 rfl) rfl (by decide) rfl ?_
      refine hz_goto (pc := 81) (tgt := 3) (hz_dec kX12_isAbove 46 rfl) (by decide) ?_
      refine hz_pick (pc := 3) [0, 3, 4, 5, 6] rfl ?_
      refine ih (9 - (i + 1)) (by omega) (i + 1) rfl (by omega) (fun j hj => ?_)
      rcases Nat.lt_or_ge j i with r | r
      · exact hs9 j r
      · rw [show j = i by omega]
        exact un_inj ((lc_eq (by omega) (by omega)).mp h2)
    · skip
      refine hz_lload (pc := 64) 1 (hz_dec kX12_isAbove 37 rfl) rfl ?_
      refine hz_lload (pc := 66) 0 (hz_dec kX12_isAbove 38 rfl) rfl ?_
      refine hz_lcmp (pc := 68) (hz_dec kX12_isAbove 39 rfl) ?_
      refine hz_if_le (pc := 69) (tgt := 76) (hz_dec kX12_isAbove 40 rfl) (by decide) (fun h3 => ?_) (fun h3 => ?_)
      · skip
        refine hz_iconst (pc := 76) (v := nI 0) (hz_dec kX12_isAbove 43 rfl) (by decide) ?_
        refine hz_zret (pc := 77) (hz_dec kX12_isAbove 44 rfl) rfl rfl ⟨?_, rfl, rfl⟩
        rw [decide_eq_false ?_]
        · rfl
        · rw [← tx, ← ty]
          have q := (lc_le (by omega) (by omega)).mp h3
          have q2 := mt (lc_eq (by omega) (by omega)).mpr h2
          have q3 := bg_gt (f := fA M B 31) (g := fA M B 31) (a := 9 * (128 * v + y)) (b := 9 * (128 * v + x)) (n := 9) (i := i) (fun j hj => (hs9 j hj).symm) h1 (by omega)
          omega
      · skip
        refine hz_iconst (pc := 72) (v := nI 1) (hz_dec kX12_isAbove 41 rfl) (by decide) ?_
        refine hz_goto (pc := 73) (tgt := 77) (hz_dec kX12_isAbove 42 rfl) (by decide) ?_
        refine hz_zret (pc := 77) (hz_dec kX12_isAbove 44 rfl) rfl rfl ⟨?_, rfl, rfl⟩
        rw [decide_eq_true ?_]
        · rfl
        · rw [← tx, ← ty]
          have q := mt (lc_le (by omega) (by omega)).mpr h3
          exact bg_gt (f := fA M B 31) (g := fA M B 31) (a := 9 * (128 * v + x)) (b := 9 * (128 * v + y)) (n := 9) (i := i) hs9 h1 (by omega)
set_option maxHeartbeats 4000000 in
set_option maxRecDepth 100000 in
theorem c_mAb {κ : hz_C} {z : Nat} {M : hz_M} {B : Nat} (hO_ : md_O M B) (hE : mdE M B) (h8 : 8 ≤ B) (hz : B + 88 ≤ z) {v tip : Nat} {bl : List bk_B} (hv : v < 6) (hnb : bl.length ≤ 128) (hN : nbX (fA M B) (fL M B) v bl tip) {x y : Nat} (hx : x < bl.length) (hy : y < bl.length) : hz_Mt κ xX12_isAbove 1 0 0 [.ref B, .int (nI v), .int (nI x), .int (nI y)] z M (hz_ex (some (.int (hz_b (decide (bTo bl y < bTo bl x))))) z M) := by
  refine hz_ent (lo := [(0, .ref B), (1, .int (nI v)), (2, .int (nI x)), (3, .int (nI y))]) (by decide) (Nat.le_of_ble_eq_true rfl) rfl ?_
  refine hz_iconst (pc := 0) (v := nI 0) (hz_dec kX12_isAbove 0 rfl) (by decide) ?_
  refine hz_istore (pc := 1) (i := 4) (lo2 := [(4, .int (nI 0)), (0, .ref B), (1, .int (nI v)), (2, .int (nI x)), (3, .int (nI y))]) (hz_dec kX12_isAbove 1 rfl) (by decide) rfl ?_
  refine hz_pick (pc := 3) [0, 1, 2, 3, 4] rfl ?_
  exact c_mAb_l hO_ hE h8 hz hv hnb hN hx hy 9 0 rfl (by omega) (fun j hj => absurd hj (by omega))
set_option maxHeartbeats 4000000 in
set_option maxRecDepth 100000 in
theorem c_mOn_l {κ : hz_C} {z : Nat} {M : hz_M} {B : Nat} (hO_ : md_O M B) (hE : mdE M B) (h8 : 8 ≤ B) (hz : B + 88 ≤ z) {v nb : Nat} {en : List en_E} (hv : v < 6) (hnb : nb ≤ 128) (hne : nb ≤ en.length) (hR : rvX (fA M B) v nb en) (hwf : wfE en) {tip : Nat} (ht : tip < nb) {x : Nat} (hx : x < nb) : ∀ k i, k = eH en tip - i → i ≤ eH en tip → (∀ j, j < i → x < upE en tip j) → hz_W κ xX12_isOnChain 1 0 0 (hz_ex (some (.int (hz_b (onC en tip x)))) z M) 0 0 3 [(4, .int (nI (upE en tip i))), (0, .ref B), (1, .int (nI v)), (2, .int (nI x)), (3, .int (nI tip))] [] z M := by
  intro k
  induction k using Nat.strongRecOn with
  | ind k ih =>
  intro i hk hi hgt
  obtain ⟨fs, hO, hF⟩ := id hO_
  have hup := hwf.up (k := tip) (by omega) i hi
  refine hz_iload (pc := 3) 0 (hz_dec kX12_isOnChain 2 rfl) rfl ?_
  refine hz_iloadn (pc := 5) 3 (hz_dec kX12_isOnChain 3 rfl) rfl ?_
  refine hz_n_le (pc := 6) (tgt := 25) (hz_dec kX12_isOnChain 4 rfl) (by decide) (by omega) (by omega) (fun h1 => ?_) (fun h1 => ?_)
  · skip
    refine hz_iload (pc := 25) 0 (hz_dec kX12_isOnChain 13 rfl) rfl ?_
    refine hz_iloadn (pc := 27) 3 (hz_dec kX12_isOnChain 14 rfl) rfl ?_
    refine hz_n_ne (pc := 28) (tgt := 35) (hz_dec kX12_isOnChain 15 rfl) (by decide) (by omega) (by omega) (fun h2 => ?_) (fun h2 => ?_)
    · skip
      refine hz_iconst (pc := 35) (v := nI 0) (hz_dec kX12_isOnChain 18 rfl) (by decide) ?_
      refine hz_zret (pc := 36) (hz_dec kX12_isOnChain 19 rfl) rfl rfl ⟨?_, rfl, rfl⟩
      rw [onC_f hwf (by omega) (fun j hj => ?_)]
      · rfl
      · rcases (show j < i ∨ j = i ∨ i < j by omega) with c | c | c
        · have q := hgt j c; omega
        · rw [c]; exact h2
        · have q := hwf.lt (k := tip) (by omega) c hj; omega
    · skip
      refine hz_iconst (pc := 31) (v := nI 1) (hz_dec kX12_isOnChain 16 rfl) (by decide) ?_
      refine hz_goto (pc := 32) (tgt := 36) (hz_dec kX12_isOnChain 17 rfl) (by decide) ?_
      refine hz_zret (pc := 36) (hz_dec kX12_isOnChain 19 rfl) rfl rfl ⟨?_, rfl, rfl⟩
      rw [← h2, onC_t hwf (by omega) hi]
      rfl
  · skip
    have hlt : i < eH en tip := by
      rcases (show i < eH en tip ∨ i = eH en tip by omega) with c | c
      · exact c
      · have q := (hwf.top (k := tip) (by omega)).1
        rw [← c] at q
        omega
    have hup2 := hwf.up (k := tip) (by omega) (i + 1) (by omega)
    refine hz_aloadn (pc := 9) 1 (hz_dec kX12_isOnChain 5 rfl) rfl ?_
    refine hz_get (pc := 10) (v := .ref (B + 26)) (hz_dec kX12_isOnChain 6 rfl) fo_X12_89 hO h8 (by omega) (hF.2 28 (by decide) (by decide)) ?_
    refine hz_iloadn (pc := 13) 2 (hz_dec kX12_isOnChain 7 rfl) rfl ?_
    refine hz_iload (pc := 14) 0 (hz_dec kX12_isOnChain 8 rfl) rfl ?_
    refine hz_xS (pc := 16) (As := [.int (nI v), .int (nI (upE en tip i))]) (st := [.ref (B + 26)]) (hz_dec kX12_isOnChain 9 rfl) co_X12_419 sc_X12_at0 (c_at0) rfl (by decide) ⟨Nat.le_refl _, Nat.le_refl _⟩ (Nat.le_of_ble_eq_true rfl) rfl ?_
    refine hz_iald (pc := 19) (j := 128 * v + upE en tip i) (hz_dec kX12_isOnChain 10 rfl) hE.a26 (by omega) (by omega) rfl (by omega) (by decide) ?_
    refine hz_eqi (pc := 20) (show _ = nI (upE en tip (i + 1)) by rw [((hR (upE en tip i) (by omega)).1 (by omega)).1, hwf.pv (k := tip) (by omega) hlt]; show nI (rx nb _) = _; rw [rx_lt (by omega)]) ?_
    refine hz_istore (pc := 20) (i := 4) (lo2 := [(4, .int (nI (upE en tip (i + 1)))), (0, .ref B), (1, .int (nI v)), (2, .int (nI x)), (3, .int (nI tip))]) (hz_dec kX12_isOnChain 11 rfl) (by decide) rfl ?_
    refine hz_goto (pc := 22) (tgt := 3) (hz_dec kX12_isOnChain 12 rfl) (by decide) ?_
    refine hz_pick (pc := 3) [0, 1, 2, 3, 4] rfl ?_
    refine ih (eH en tip - (i + 1)) (by omega) (i + 1) rfl (by omega) (fun j hj => ?_)
    rcases (show j = i ∨ j < i by omega) with rfl | c
    · exact h1
    · exact hgt j c
set_option maxHeartbeats 4000000 in
set_option maxRecDepth 100000 in
theorem c_mOn {κ : hz_C} {z : Nat} {M : hz_M} {B : Nat} (hO_ : md_O M B) (hE : mdE M B) (h8 : 8 ≤ B) (hz : B + 88 ≤ z) {v nb : Nat} {en : List en_E} (hv : v < 6) (hnb : nb ≤ 128) (hne : nb ≤ en.length) (hR : rvX (fA M B) v nb en) (hwf : wfE en) {tip : Nat} (ht : tip < nb) {x : Nat} (hx : x < nb) : hz_Mt κ xX12_isOnChain 1 0 0 [.ref B, .int (nI v), .int (nI x), .int (nI tip)] z M (hz_ex (some (.int (hz_b (onC en tip x)))) z M) := by
  refine hz_ent (lo := [(0, .ref B), (1, .int (nI v)), (2, .int (nI x)), (3, .int (nI tip))]) (by decide) (Nat.le_of_ble_eq_true rfl) rfl ?_
  refine hz_iloadn (pc := 0) 3 (hz_dec kX12_isOnChain 0 rfl) rfl ?_
  refine hz_istore (pc := 1) (i := 4) (lo2 := [(4, .int (nI tip)), (0, .ref B), (1, .int (nI v)), (2, .int (nI x)), (3, .int (nI tip))]) (hz_dec kX12_isOnChain 1 rfl) (by decide) rfl ?_
  refine hz_pick (pc := 3) [0, 1, 2, 3, 4] rfl ?_
  exact c_mOn_l hO_ hE h8 hz hv hnb hne hR hwf ht hx (eH en tip) 0 rfl (by omega) (fun j hj => absurd hj (by omega))
set_option maxHeartbeats 4000000 in
set_option maxRecDepth 100000 in
theorem c_mAt_l {κ : hz_C} {z : Nat} {M : hz_M} {B : Nat} (hO_ : md_O M B) (hE : mdE M B) (h8 : 8 ≤ B) (hz : B + 88 ≤ z) {v nb : Nat} {en : List en_E} (hv : v < 6) (hnb : nb ≤ 128) (hne : nb ≤ en.length) (hR : rvX (fA M B) v nb en) (hwf : wfE en) {tip : Nat} (ht : tip < nb) {h_ : Nat} (hh : h_ ≤ eH en tip) : ∀ k i, k = eH en tip - h_ - i → i ≤ eH en tip - h_ → hz_W κ xX12_atHeight 1 0 0 (hz_ex (some (.int (nI (chE en tip h_)))) z M) 0 0 3 [(4, .int (nI (upE en tip i))), (0, .ref B), (1, .int (nI v)), (2, .int (nI tip)), (3, .int (nI h_))] [] z M := by
  intro k
  induction k using Nat.strongRecOn with
  | ind k ih =>
  intro i hk hi
  obtain ⟨fs, hO, hF⟩ := id hO_
  have hup := hwf.up (k := tip) (by omega) i (by omega)
  have hR1 := (hR (upE en tip i) (by omega)).1 (by omega)
  have hht := hwf.ht (k := tip) (by omega)
  refine hz_iload (pc := 3) 0 (hz_dec kX12_atHeight 2 rfl) rfl ?_
  refine hz_z_lt (pc := 5) (tgt := 39) (hz_dec kX12_atHeight 3 rfl) (by decide) (by omega) ?_
  refine hz_aloadn (pc := 8) 1 (hz_dec kX12_atHeight 4 rfl) rfl ?_
  refine hz_get (pc := 9) (v := .ref (B + 27)) (hz_dec kX12_atHeight 5 rfl) fo_X12_92 hO h8 (by omega) (hF.2 29 (by decide) (by decide)) ?_
  refine hz_iloadn (pc := 12) 2 (hz_dec kX12_atHeight 6 rfl) rfl ?_
  refine hz_iload (pc := 13) 0 (hz_dec kX12_atHeight 7 rfl) rfl ?_
  refine hz_xS (pc := 15) (As := [.int (nI v), .int (nI (upE en tip i))]) (st := [.ref (B + 27)]) (hz_dec kX12_atHeight 8 rfl) co_X12_419 sc_X12_at0 (c_at0) rfl (by decide) ⟨Nat.le_refl _, Nat.le_refl _⟩ (Nat.le_of_ble_eq_true rfl) rfl ?_
  refine hz_iald (pc := 18) (j := 128 * v + upE en tip i) (hz_dec kX12_atHeight 9 rfl) hE.a27 (by omega) (by omega) rfl (by omega) (by decide) ?_
  refine hz_eqi (pc := 19) hR1.2.1 ?_
  refine hz_iloadn (pc := 19) 4 (hz_dec kX12_atHeight 10 rfl) rfl ?_
  refine hz_n_le (pc := 20) (tgt := 39) (hz_dec kX12_atHeight 11 rfl) (by decide) (by omega) (by omega) (fun h3 => ?_) (fun h3 => ?_)
  · skip
    have e : i = eH en tip - h_ := by omega
    refine hz_iloadn (pc := 39) 4 (hz_dec kX12_atHeight 20 rfl) rfl ?_
    refine hz_z_lt (pc := 40) (tgt := 58) (hz_dec kX12_atHeight 21 rfl) (by decide) (by omega) ?_
    refine hz_aloadn (pc := 43) 1 (hz_dec kX12_atHeight 22 rfl) rfl ?_
    refine hz_get (pc := 44) (v := .ref (B + 27)) (hz_dec kX12_atHeight 23 rfl) fo_X12_92 hO h8 (by omega) (hF.2 29 (by decide) (by decide)) ?_
    refine hz_iloadn (pc := 47) 2 (hz_dec kX12_atHeight 24 rfl) rfl ?_
    refine hz_iload (pc := 48) 0 (hz_dec kX12_atHeight 25 rfl) rfl ?_
    refine hz_xS (pc := 50) (As := [.int (nI v), .int (nI (upE en tip i))]) (st := [.ref (B + 27)]) (hz_dec kX12_atHeight 26 rfl) co_X12_419 sc_X12_at0 (c_at0) rfl (by decide) ⟨Nat.le_refl _, Nat.le_refl _⟩ (Nat.le_of_ble_eq_true rfl) rfl ?_
    refine hz_iald (pc := 53) (j := 128 * v + upE en tip i) (hz_dec kX12_atHeight 27 rfl) hE.a27 (by omega) (by omega) rfl (by omega) (by decide) ?_
    refine hz_eqi (pc := 54) hR1.2.1 ?_
    refine hz_iloadn (pc := 54) 4 (hz_dec kX12_atHeight 28 rfl) rfl ?_
    refine hz_n_eq (pc := 55) (tgt := 62) (hz_dec kX12_atHeight 29 rfl) (by decide) (by omega) (by omega) (fun h5 => ?_) (fun h5 => ?_)
    · skip
      refine hz_iload (pc := 62) 0 (hz_dec kX12_atHeight 32 rfl) rfl ?_
      exact hz_iret (pc := 64) (hz_dec kX12_atHeight 33 rfl) rfl ⟨by unfold chE; rw [e], rfl, rfl⟩
    · skip
      exact absurd h5 (by omega)
  · skip
    have hup2 := hwf.up (k := tip) (by omega) (i + 1) (by omega)
    refine hz_aloadn (pc := 23) 1 (hz_dec kX12_atHeight 12 rfl) rfl ?_
    refine hz_get (pc := 24) (v := .ref (B + 26)) (hz_dec kX12_atHeight 13 rfl) fo_X12_89 hO h8 (by omega) (hF.2 28 (by decide) (by decide)) ?_
    refine hz_iloadn (pc := 27) 2 (hz_dec kX12_atHeight 14 rfl) rfl ?_
    refine hz_iload (pc := 28) 0 (hz_dec kX12_atHeight 15 rfl) rfl ?_
    refine hz_xS (pc := 30) (As := [.int (nI v), .int (nI (upE en tip i))]) (st := [.ref (B + 26)]) (hz_dec kX12_atHeight 16 rfl) co_X12_419 sc_X12_at0 (c_at0) rfl (by decide) ⟨Nat.le_refl _, Nat.le_refl _⟩ (Nat.le_of_ble_eq_true rfl) rfl ?_
    refine hz_iald (pc := 33) (j := 128 * v + upE en tip i) (hz_dec kX12_atHeight 17 rfl) hE.a26 (by omega) (by omega) rfl (by omega) (by decide) ?_
    refine hz_eqi (pc := 34) (show _ = nI (upE en tip (i + 1)) by rw [hR1.1, hwf.pv (k := tip) (by omega) (by omega)]; show nI (rx nb _) = _; rw [rx_lt (by omega)]) ?_
    refine hz_istore (pc := 34) (i := 4) (lo2 := [(4, .int (nI (upE en tip (i + 1)))), (0, .ref B), (1, .int (nI v)), (2, .int (nI tip)), (3, .int (nI h_))]) (hz_dec kX12_atHeight 18 rfl) (by decide) rfl ?_
    refine hz_goto (pc := 36) (tgt := 3) (hz_dec kX12_atHeight 19 rfl) (by decide) ?_
    refine hz_pick (pc := 3) [0, 1, 2, 3, 4] rfl ?_
    exact ih (eH en tip - h_ - (i + 1)) (by omega) (i + 1) rfl (by omega)
set_option maxHeartbeats 4000000 in
set_option maxRecDepth 100000 in
theorem c_mAt {κ : hz_C} {z : Nat} {M : hz_M} {B : Nat} (hO_ : md_O M B) (hE : mdE M B) (h8 : 8 ≤ B) (hz : B + 88 ≤ z) {v nb : Nat} {en : List en_E} (hv : v < 6) (hnb : nb ≤ 128) (hne : nb ≤ en.length) (hR : rvX (fA M B) v nb en) (hwf : wfE en) {tip : Nat} (ht : tip < nb) {h_ : Nat} (hh : h_ ≤ eH en tip) : hz_Mt κ xX12_atHeight 1 0 0 [.ref B, .int (nI v), .int (nI tip), .int (nI h_)] z M (hz_ex (some (.int (nI (chE en tip h_)))) z M) := by
  refine hz_ent (lo := [(0, .ref B), (1, .int (nI v)), (2, .int (nI tip)), (3, .int (nI h_))]) (by decide) (Nat.le_of_ble_eq_true rfl) rfl ?_
  refine hz_iloadn (pc := 0) 2 (hz_dec kX12_atHeight 0 rfl) rfl ?_
  refine hz_istore (pc := 1) (i := 4) (lo2 := [(4, .int (nI tip)), (0, .ref B), (1, .int (nI v)), (2, .int (nI tip)), (3, .int (nI h_))]) (hz_dec kX12_atHeight 1 rfl) (by decide) rfl ?_
  refine hz_pick (pc := 3) [0, 1, 2, 3, 4] rfl ?_
  exact c_mAt_l hO_ hE h8 hz hv hnb hne hR hwf ht hh (eH en tip - h_) 0 rfl (by omega)
