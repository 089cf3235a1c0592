/-! the reference: a target that is moved -/
def ab_P (M : hz_M) (z N e : Nat) : hz_P := fun r z2 M2 => ∃ v : Nat, v < 2 ^ 49 ∧ (v = N / 256 ^ (e - 3) ∨ 1099511627776 < v ∧ 1099511627776 < N / 256 ^ (e - 3)) ∧ some (.long (lN v)) = r ∧ z = z2 ∧ M = M2
theorem nI_m1lt {q : Nat} (hq : q < 2 ^ 31) : nI q - 1 < nI q := by
  rcases q with _ | q
  · decide
  · rw [nI_pred]
    exact nI_lt (by omega) hq
theorem ab_st {N a : Nat} : N / 256 ^ (a + 1) * 256 + N / 256 ^ a % 256 = N / 256 ^ a := by
  rw [Nat.pow_succ, ← Nat.div_div_eq_div_mul]
  generalize N / 256 ^ a = x
  omega
set_option maxHeartbeats 4000000 in
set_option maxRecDepth 100000 in
theorem c_above_l {κ : hz_C} {z : Nat} {M : hz_M} {B : Nat} {fs : List Value} (hO : M B = .inr (12, fs)) (hF : md_F B fs) (h8 : 8 ≤ B) (hz : B + 88 ≤ z) {g : Nat → Int32} (h10 : M (B + 10) = .inl (0, 9, .inl g)) {e : Nat} (he : 3 ≤ e) (he2 : e ≤ 39) : ∀ (k : Nat) (v : Nat) (ix : Int32), ix = nI k - 1 → e - 3 ≤ k → k ≤ 36 → v = bg g 0 9 / 256 ^ k → v ≤ 1099511627776 → hz_W κ xX12_above 0 0 0 (ab_P M z (bg g 0 9) e) 0 0 6 [(4, .int ix), (2, .long (lN v)), (0, .ref B), (1, .int (nI e))] [] z M := by
  intro k
  induction k with
  | zero =>
    intro v ix hx hk1 hk hv hl
    refine hz_iload (pc := 6) 0 (hz_dec kX12_above 4 rfl) rfl ?_
    refine hz_iloadn (pc := 8) 3 (hz_dec kX12_above 5 rfl) rfl ?_
    refine hz_iconst (pc := 9) (v := nI 3) (hz_dec kX12_above 6 rfl) (by decide) ?_
    refine hz_subN (pc := 10) (hz_dec kX12_above 7 rfl) (by omega) ?_
    refine hz_icmp_lt (pc := 11) (tgt := 61) (hz_dec kX12_above 8 rfl) (by decide) (fun h1 => ?_) (fun h1 => ?_)
    · skip
      refine hz_lloadn (pc := 61) 1 (hz_dec kX12_above 39 rfl) rfl ?_
      exact hz_lret (pc := 62) (hz_dec kX12_above 40 rfl) rfl ⟨v, by omega, Or.inl (by rw [hv]; congr 2; omega), rfl, rfl, rfl⟩
    · skip
      exact absurd (by rw [hx, show e - 3 = 0 by omega]; exact nI_m1lt (by decide)) h1
  | succ k ih =>
    intro v ix hx hk1 hk hv hl
    rcases (show e - 3 = k + 1 ∨ e - 3 ≤ k by omega) with hee | hee
    · skip
      refine hz_iload (pc := 6) 0 (hz_dec kX12_above 4 rfl) rfl ?_
      refine hz_iloadn (pc := 8) 3 (hz_dec kX12_above 5 rfl) rfl ?_
      refine hz_iconst (pc := 9) (v := nI 3) (hz_dec kX12_above 6 rfl) (by decide) ?_
      refine hz_subN (pc := 10) (hz_dec kX12_above 7 rfl) (by omega) ?_
      refine hz_icmp_lt (pc := 11) (tgt := 61) (hz_dec kX12_above 8 rfl) (by decide) (fun h1 => ?_) (fun h1 => ?_)
      · skip
        refine hz_lloadn (pc := 61) 1 (hz_dec kX12_above 39 rfl) rfl ?_
        exact hz_lret (pc := 62) (hz_dec kX12_above 40 rfl) rfl ⟨v, by omega, Or.inl (by rw [hv]; congr 2; omega), rfl, rfl, rfl⟩
      · skip
        exact absurd (by rw [hx, hee]; exact nI_m1lt (by omega)) h1
    · skip
      rw [nI_pred] at hx
      subst hx
      refine hz_iload (pc := 6) 0 (hz_dec kX12_above 4 rfl) rfl ?_
      refine hz_iloadn (pc := 8) 3 (hz_dec kX12_above 5 rfl) rfl ?_
      refine hz_iconst (pc := 9) (v := nI 3) (hz_dec kX12_above 6 rfl) (by decide) ?_
      refine hz_subN (pc := 10) (hz_dec kX12_above 7 rfl) (by omega) ?_
      refine hz_n_lt (pc := 11) (tgt := 61) (hz_dec kX12_above 8 rfl) (by decide) (by omega) (by omega) (fun h1 => ?_) (fun h1 => ?_)
      · skip
        exact absurd h1 (by omega)
      · skip
        have hu := un_lt (g (8 - k / 4))
        refine hz_lloadn (pc := 14) 1 (hz_dec kX12_above 9 rfl) rfl ?_
        refine hz_bipush (pc := 15) (v := nI 8) (hz_dec kX12_above 10 rfl) (by decide) ?_
        refine hz_lshl (pc := 17) (hz_dec kX12_above 11 rfl) ?_
        refine hz_eql (pc := 18) (w := lN (v * 256)) (wb_shl v (k := 8) (by decide)) ?_
        refine hz_aloadn (pc := 18) 2 (hz_dec kX12_above 12 rfl) rfl ?_
        refine hz_get (pc := 19) (v := .ref (B + 10)) (hz_dec kX12_above 13 rfl) fo_X12_39 hO h8 (by omega) (hF.2 11 (by decide) (by decide)) ?_
        refine hz_bipush (pc := 22) (v := nI 8) (hz_dec kX12_above 14 rfl) (by decide) ?_
        refine hz_iload (pc := 24) 0 (hz_dec kX12_above 15 rfl) rfl ?_
        refine hz_iconst (pc := 26) (v := nI 4) (hz_dec kX12_above 16 rfl) (by decide) ?_
        refine hz_divN (pc := 27) (hz_dec kX12_above 17 rfl) (by omega) (by decide) (by decide) ?_
        refine hz_subN (pc := 28) (hz_dec kX12_above 18 rfl) (by omega) ?_
        refine hz_iald (pc := 29) (j := 8 - (k / 4)) (hz_dec kX12_above 19 rfl) h10 (by omega) (by omega) rfl (by omega) (by decide) ?_
        refine hz_bipush (pc := 30) (v := nI 8) (hz_dec kX12_above 20 rfl) (by decide) ?_
        refine hz_iload (pc := 32) 0 (hz_dec kX12_above 21 rfl) rfl ?_
        refine hz_iconst (pc := 34) (v := nI 4) (hz_dec kX12_above 22 rfl) (by decide) ?_
        refine hz_remN (pc := 35) (hz_dec kX12_above 23 rfl) (by omega) (by decide) (by decide) ?_
        refine hz_mulN (pc := 36) (hz_dec kX12_above 24 rfl) ?_
        refine hz_iushr (pc := 37) (hz_dec kX12_above 25 rfl) ?_
        refine hz_eqi (pc := 38) (ushr_nI _ (by omega)) ?_
        have q := bg_byte g 0 9 k (by omega)
        rw [show 9 - 1 - k / 4 = 8 - k / 4 by omega, Nat.zero_add, show (256 : Nat) ^ (k % 4) = 2 ^ (8 * (k % 4)) by rw [Nat.pow_mul]] at q
        have qb : bb (nI (un (g (8 - k / 4)) / 2 ^ (8 * (k % 4)))) = bg g 0 9 / 256 ^ k % 256 := by rw [q, bb_un, un_nI (Nat.lt_of_le_of_lt (Nat.div_le_self _ _) hu)]
        have hlt := bb_lt (nI (un (g (8 - k / 4)) / 2 ^ (8 * (k % 4))))
        refine hz_sipush (pc := 38) (v := nI 255) (hz_dec kX12_above 26 rfl) (by decide) ?_
        refine hz_andB (pc := 41) (hz_dec kX12_above 27 rfl) ?_
        refine hz_i2l (pc := 42) (hz_dec kX12_above 28 rfl) ?_
        refine hz_eql (pc := 43) (nI_l (by omega)) ?_
        refine hz_lor (pc := 43) (hz_dec kX12_above 29 rfl) ?_
        refine hz_eql (pc := 44) (w := lN (bg g 0 9 / 256 ^ k)) (by rw [g_or (k := 8) rfl hlt (by omega), qb, hv, ab_st]) ?_
        have hb : bg g 0 9 / 256 ^ k < 2 ^ 49 := by rw [← ab_st, ← hv]; omega
        refine hz_lstoren (pc := 44) (i := 2) (lo2 := [(2, .long (lN (bg g 0 9 / 256 ^ k))), (4, .int (nI k)), (0, .ref B), (1, .int (nI e))]) (hz_dec kX12_above 30 rfl) rfl (by decide) rfl ?_
        refine hz_lloadn (pc := 45) 0 (hz_dec kX12_above 31 rfl) rfl ?_
        refine hz_ldc2 (pc := 46) (v := 1099511627776) (hz_dec kX12_above 32 rfl) ks_X12_403 ?_
        refine hz_eql (pc := 49) (w := lN 1099511627776) rfl ?_
        refine hz_lcmp (pc := 49) (hz_dec kX12_above 33 rfl) ?_
        refine hz_if_le (pc := 50) (tgt := 55) (hz_dec kX12_above 34 rfl) (by decide) (fun h2 => ?_) (fun h2 => ?_)
        · skip
          have hl2 := (lc_le (by omega) (by decide)).mp h2
          refine hz_iinc (pc := 55) (i := 4) (w := nI k - 1) (lo2 := [(4, .int (nI k - 1)), (2, .long (lN (bg g 0 9 / 256 ^ k))), (0, .ref B), (1, .int (nI e))]) 1 (hz_dec kX12_above 37 rfl) rfl (hz_m1 k) (by decide) rfl ?_
          refine hz_goto (pc := 58) (tgt := 6) (hz_dec kX12_above 38 rfl) (by decide) ?_
          refine hz_pick (pc := 6) [0, 1, 2, 3] rfl ?_
          exact ih _ _ rfl hee (by omega) rfl hl2
        · skip
          have hl2 : 1099511627776 < bg g 0 9 / 256 ^ k := Nat.lt_of_not_le (fun q => h2 ((lc_le (by omega) (by decide)).mpr q))
          refine hz_lloadn (pc := 53) 0 (hz_dec kX12_above 35 rfl) rfl ?_
          exact hz_lret (pc := 54) (hz_dec kX12_above 36 rfl) rfl ⟨_, hb, Or.inr ⟨hl2, Nat.lt_of_lt_of_le hl2 (Nat.div_le_div_left (Nat.pow_le_pow_right (by decide) hee) (Nat.pow_pos (by decide)))⟩, rfl, rfl, rfl⟩
set_option maxHeartbeats 4000000 in
set_option maxRecDepth 100000 in
theorem c_above {κ : hz_C} {z : Nat} {M : hz_M} {B : Nat} {fs : List Value} (hO : M B = .inr (12, fs)) (hF : md_F B fs) (h8 : 8 ≤ B) (hz : B + 88 ≤ z) {g : Nat → Int32} (h10 : M (B + 10) = .inl (0, 9, .inl g)) {e : Nat} (he : 3 ≤ e) (he2 : e ≤ 39) : hz_Mt κ xX12_above 0 0 0 [.ref B, .int (nI e)] z M (ab_P M z (bg g 0 9) e) := by
  refine hz_ent (lo := [(0, .ref B), (1, .int (nI e))]) (by decide) (Nat.le_of_ble_eq_true rfl) rfl ?_
  refine hz_lconst (pc := 0) (v := lN 0) (hz_dec kX12_above 0 rfl) (by decide) ?_
  refine hz_lstoren (pc := 1) (i := 2) (lo2 := [(2, .long (lN 0)), (0, .ref B), (1, .int (nI e))]) (hz_dec kX12_above 1 rfl) rfl (by decide) rfl ?_
  refine hz_bipush (pc := 2) (v := nI 35) (hz_dec kX12_above 2 rfl) (by decide) ?_
  refine hz_istore (pc := 4) (i := 4) (lo2 := [(4, .int (nI 35)), (2, .long (lN 0)), (0, .ref B), (1, .int (nI e))]) (hz_dec kX12_above 3 rfl) (by decide) rfl ?_
  refine hz_pick (pc := 6) [0, 1, 2, 3] rfl ?_
  exact c_above_l hO hF h8 hz h10 he he2 36 0 _ (by decide) (by omega) (by omega) (by rw [Nat.div_eq_of_lt]; have := bg_lt g 0 9; rw [show (256 : Nat) ^ 36 = 4294967296 ^ 9 by decide]; exact this) (by omega)
set_option maxHeartbeats 4000000 in
set_option maxRecDepth 100000 in
theorem c_moved_l {κ : hz_C} {z : Nat} {M : hz_M} {B : Nat} {fs : List Value} (hO : M B = .inr (12, fs)) (hF : md_F B fs) (h8 : 8 ≤ B) (hz : B + 88 ≤ z) {g : Nat → Int32} (h10 : M (B + 10) = .inl (0, 9, .inl g)) (hN : bg g 0 9 < 256 ^ 32) {P : hz_P} (K : P (some (.int (tgBits (bg g 0 9)))) z M) : ∀ k e, k = 35 - e → 3 ≤ e → e ≤ 35 → (∀ e2, 3 ≤ e2 → e2 < e → 8388607 < bg g 0 9 / 256 ^ (e2 - 3)) → hz_W κ xX12_moved 2 0 0 P 0 0 63 [(3, .int (nI e)), (0, .ref B)] [] z M := by
  intro k
  induction k using Nat.strongRecOn with
  | ind k ih =>
  intro e hk he he2 hs
  refine hz_aloadn (pc := 63) 1 (hz_dec kX12_moved 29 rfl) rfl ?_
  refine hz_iloadn (pc := 64) 0 (hz_dec kX12_moved 30 rfl) rfl ?_
  refine hz_callV (pc := 65) (a := B) (As := [.int (nI e)]) (st := []) (hz_dec kX12_moved 31 rfl) co_X12_397 im_X12_above se_X12_above rfl hO h8 (by omega) (c_above hO hF h8 hz h10 (e := e) (by omega) (by omega)) rfl (by decide) ⟨Nat.le_refl _, Nat.le_refl _⟩ (Nat.le_of_ble_eq_true rfl) rfl (fun r9 z9 M9 hp9 => ?_)
  obtain ⟨v, hvl, hv, rfl, rfl, rfl⟩ := hp9
  refine hz_ldc2 (pc := 68) (v := 8388607) (hz_dec kX12_moved 32 rfl) ks_X12_401 ?_
  refine hz_eql (pc := 71) (w := lN 8388607) rfl ?_
  refine hz_lcmp (pc := 71) (hz_dec kX12_moved 33 rfl) ?_
  refine hz_if_le (pc := 72) (tgt := 81) (hz_dec kX12_moved 34 rfl) (by decide) (fun h1 => ?_) (fun h1 => ?_)
  · skip
    have hl := (lc_le (by omega) (by decide)).mp h1
    have hve : v = bg g 0 9 / 256 ^ (e - 3) := hv.elim id (fun q => by omega)
    have hX : tgX (bg g 0 9) = e := tgX_all he (by omega) (by omega) hs
    refine hz_iloadn (pc := 81) 0 (hz_dec kX12_moved 37 rfl) rfl ?_
    refine hz_bipush (pc := 82) (v := nI 24) (hz_dec kX12_moved 38 rfl) (by decide) ?_
    refine hz_ishl (pc := 84) (hz_dec kX12_moved 39 rfl) ?_
    refine hz_eqi (pc := 85) (shl_nI _ (by decide)) ?_
    refine hz_aloadn (pc := 85) 1 (hz_dec kX12_moved 40 rfl) rfl ?_
    refine hz_iloadn (pc := 86) 0 (hz_dec kX12_moved 41 rfl) rfl ?_
    refine hz_callV (pc := 87) (a := B) (As := [.int (nI e)]) (st := [.int (nI (e * 2 ^ 24))]) (hz_dec kX12_moved 42 rfl) co_X12_397 im_X12_above se_X12_above rfl hO h8 (by omega) (c_above hO hF h8 hz h10 (e := e) (by omega) (by omega)) rfl (by decide) ⟨Nat.le_refl _, Nat.le_refl _⟩ (Nat.le_of_ble_eq_true rfl) rfl (fun r9 z9 M9 hp9 => ?_)
    obtain ⟨v2, hvl2, hv2, rfl, rfl, rfl⟩ := hp9
    have hve2 : v2 = bg g 0 9 / 256 ^ (e - 3) := hv2.elim id (fun q => by omega)
    refine hz_l2i (pc := 90) (hz_dec kX12_moved 43 rfl) ?_
    refine hz_eqi (pc := 91) (lN_i _) ?_
    refine hz_ior (pc := 91) (hz_dec kX12_moved 44 rfl) ?_
    refine hz_eqi (pc := 92) (or_nI (k := 24) rfl (by omega)) ?_
    have hb : tgBits (bg g 0 9) = nI (e * 2 ^ 24 + v2) := by unfold tgBits; rw [hX, hve2]
    rw [← hb]
    exact hz_iret (pc := 92) (hz_dec kX12_moved 45 rfl) rfl K
  · skip
    have hl : 8388607 < v := Nat.lt_of_not_le (fun q => h1 ((lc_le (by omega) (by decide)).mpr q))
    have hbig : 8388607 < bg g 0 9 / 256 ^ (e - 3) := hv.elim (fun q => by omega) (fun q => by omega)
    have he3 : e < 35 := by
      refine Nat.lt_of_not_le (fun q => ?_)
      rw [show e = 35 by omega, show 35 - 3 = 32 from rfl, Nat.div_eq_of_lt hN] at hbig
      omega
    refine hz_incN (pc := 75) (i := 3) (lo2 := [(3, .int (nI (e + 1))), (0, .ref B)]) 0 (hz_dec kX12_moved 35 rfl) rfl (by decide) rfl ?_
    refine hz_goto (pc := 78) (tgt := 63) (hz_dec kX12_moved 36 rfl) (by decide) ?_
    refine hz_pick (pc := 63) [0, 1] rfl ?_
    refine ih (35 - (e + 1)) (by omega) (e + 1) rfl (by omega) (by omega) (fun e2 a b => ?_)
    rcases (show e2 = e ∨ e2 < e by omega) with rfl | q
    · exact hbig
    · exact hs e2 a q
set_option maxHeartbeats 4000000 in
set_option maxRecDepth 100000 in
theorem c_moved {κ : hz_C} {z : Nat} {M : hz_M} {B : Nat} {fs : List Value} (hO : M B = .inr (12, fs)) (hF : md_F B fs) (h8 : 8 ≤ B) (hz : B + 88 ≤ z) (ht : md_t B M) {t : Int32} {n : Nat} (he : 3 ≤ tgE t) (he2 : tgE t ≤ 32) (hn : n ≤ 640) (hT : tgT t ≤ tgT 537919487) : hz_Mt κ xX12_moved 2 0 0 [.ref B, .int t, .int (nI n)] z M (md_tF M z B [10, 11] (some (.int (tgBits (min (tgT t * n / 160) (tgT 537919487))))) (fun _ => True)) := by
  refine hz_ent (lo := [(0, .ref B), (1, .int t), (2, .int (nI n))]) (by decide) (Nat.le_of_ble_eq_true rfl) rfl ?_
  obtain ⟨⟨a10, h10⟩, ⟨a11, h11⟩, ⟨a12, h12⟩, ⟨a13, h13⟩⟩ := id ht
  refine hz_iloadn (pc := 0) 1 (hz_dec kX12_moved 0 rfl) rfl ?_
  refine hz_aloadn (pc := 1) 0 (hz_dec kX12_moved 1 rfl) rfl ?_
  refine hz_get (pc := 2) (v := .ref (B + 10)) (hz_dec kX12_moved 2 rfl) fo_X12_39 hO h8 (by omega) (hF.2 11 (by decide) (by decide)) ?_
  refine hz_callS (pc := 5) (As := [.int t, .ref (B + 10)]) (st := []) (hz_dec kX12_moved 3 rfl) co_X12_367 sc_X12_layTarget (c_layT h10 (by omega) (by omega) (t := t) he (by omega)) rfl (by decide) ⟨Nat.le_refl _, Nat.le_refl _⟩ (Nat.le_of_ble_eq_true rfl) rfl (fun r9 z9 M9 hp9 => ?_)
  obtain ⟨rfl, rfl, f1, hf1, rfl⟩ := hp9
  refine hz_aloadn (pc := 8) 0 (hz_dec kX12_moved 4 rfl) rfl ?_
  refine hz_get (pc := 9) (v := .ref (B + 10)) (hz_dec kX12_moved 5 rfl) fo_X12_39 (hz_mne hO (by omega)) h8 (by omega) (hF.2 11 (by decide) (by decide)) ?_
  refine hz_iloadn (pc := 12) 2 (hz_dec kX12_moved 6 rfl) rfl ?_
  refine hz_callS (pc := 13) (As := [.ref (B + 10), .int (nI n)]) (st := []) (hz_dec kX12_moved 7 rfl) co_X12_387 sc_X12_timesBig (c_timesB (va_up_self _ _ _) (by omega) (by omega) (n := n) (by omega)) rfl (by decide) ⟨Nat.le_refl _, Nat.le_refl _⟩ (Nat.le_of_ble_eq_true rfl) rfl (fun r9 z9 M9 hp9 => ?_)
  obtain ⟨rfl, rfl, f2, hf2, rfl⟩ := hp9
  refine hz_mem (pc := 16) (M2 := (va_up M (B + 10) (.inl (0, 9, .inl (f2))))) (bx_uu _ _ _ _) ?_
  refine hz_aloadn (pc := 16) 0 (hz_dec kX12_moved 8 rfl) rfl ?_
  refine hz_get (pc := 17) (v := .ref (B + 10)) (hz_dec kX12_moved 9 rfl) fo_X12_39 (hz_mne hO (by omega)) h8 (by omega) (hF.2 11 (by decide) (by decide)) ?_
  refine hz_sipush (pc := 20) (v := nI 160) (hz_dec kX12_moved 10 rfl) (by decide) ?_
  refine hz_callS (pc := 23) (As := [.ref (B + 10), .int (nI 160)]) (st := []) (hz_dec kX12_moved 11 rfl) co_X12_391 sc_X12_byBig (c_byB (va_up_self _ _ _) (by omega) (by omega) (n := 160) (by omega) (by omega)) rfl (by decide) ⟨Nat.le_refl _, Nat.le_refl _⟩ (Nat.le_of_ble_eq_true rfl) rfl (fun r9 z9 M9 hp9 => ?_)
  obtain ⟨rfl, rfl, f3, hf3, rfl⟩ := hp9
  refine hz_mem (pc := 26) (M2 := (va_up M (B + 10) (.inl (0, 9, .inl (f3))))) (bx_uu _ _ _ _) ?_
  refine hz_ldcw (pc := 26) (v := nI 537919487) (hz_dec kX12_moved 12 rfl) ks_X12_371 ?_
  refine hz_aloadn (pc := 29) 0 (hz_dec kX12_moved 13 rfl) rfl ?_
  refine hz_get (pc := 30) (v := .ref (B + 11)) (hz_dec kX12_moved 14 rfl) fo_X12_42 (hz_mne hO (by omega)) h8 (by omega) (hF.2 12 (by decide) (by decide)) ?_
  refine hz_callS (pc := 33) (As := [.int (nI 537919487), .ref (B + 11)]) (st := []) (hz_dec kX12_moved 15 rfl) co_X12_367 sc_X12_layTarget (c_layT (hz_mne h11 (by omega)) (by omega) (by omega) (t := nI 537919487) (by decide) (by decide)) rfl (by decide) ⟨Nat.le_refl _, Nat.le_refl _⟩ (Nat.le_of_ble_eq_true rfl) rfl (fun r9 z9 M9 hp9 => ?_)
  obtain ⟨rfl, rfl, f4, hf4, rfl⟩ := hp9
  refine hz_aloadn (pc := 36) 0 (hz_dec kX12_moved 16 rfl) rfl ?_
  refine hz_get (pc := 37) (v := .ref (B + 10)) (hz_dec kX12_moved 17 rfl) fo_X12_39 (hz_mne (hz_mne hO (by omega)) (by omega)) h8 (by omega) (hF.2 11 (by decide) (by decide)) ?_
  refine hz_aloadn (pc := 40) 0 (hz_dec kX12_moved 18 rfl) rfl ?_
  refine hz_get (pc := 41) (v := .ref (B + 11)) (hz_dec kX12_moved 19 rfl) fo_X12_42 (hz_mne (hz_mne hO (by omega)) (by omega)) h8 (by omega) (hF.2 12 (by decide) (by decide)) ?_
  rw [show nI 537919487 = (537919487 : Int32) from rfl] at hf4
  have hNn : bg f3 0 9 = tgT t * n / 160 := by
    rw [hf3, hf2, hf1, Nat.mod_eq_of_lt]
    exact Nat.lt_of_le_of_lt (Nat.mul_le_mul hT hn) (by decide +kernel)
  refine hz_xS (pc := 44) (As := [.ref (B + 10), .ref (B + 11)]) (st := []) (hz_dec kX12_moved 20 rfl) co_X12_372 sc_X12_compareBig (c_cmpB (hz_mne (va_up_self _ _ _) (by omega)) (by omega) (by omega) (by decide) (va_up_self _ _ _) (by omega) (by omega) (by decide) (by decide) (by decide)) rfl (by decide) ⟨Nat.le_refl _, Nat.le_refl _⟩ (Nat.le_of_ble_eq_true rfl) rfl ?_
  have hE : tgT 537919487 < 256 ^ 32 := by decide +kernel
  refine hz_if_le (pc := 47) (tgt := 61) (hz_dec kX12_moved 21 rfl) (by decide) (fun h5 => ?_) (fun h5 => ?_)
  · skip
    have hq := cmpN_le.mp h5
    refine hz_iconst (pc := 61) (v := nI 3) (hz_dec kX12_moved 27 rfl) (by decide) ?_
    refine hz_istoren (pc := 62) (i := 3) (lo2 := [(3, .int (nI 3)), (0, .ref B), (1, .int t), (2, .int (nI n))]) (hz_dec kX12_moved 28 rfl) rfl (by decide) rfl ?_
    refine hz_pick (pc := 63) [0, 1] rfl ?_
    have hmin : bg f3 0 9 = min (tgT t * n / 160) (tgT 537919487) := by rw [← hNn, Nat.min_eq_left (by rw [← hf4]; exact hq)]
    refine c_moved_l (hz_mne (hz_mne hO (by omega)) (by omega)) hF h8 hz (hz_mne (va_up_self _ _ _) (by omega)) (by rw [hmin]; exact Nat.lt_of_le_of_lt (Nat.min_le_right _ _) hE) ?_ 32 3 rfl (by omega) (by omega) (fun e2 a b => absurd a (by omega))
    exact ⟨by rw [hmin], rfl, ((frl.up (os := [10, 11]) rfl).tr (frl.up (os := [10, 11]) rfl) rfl rfl), ⟨⟨f3, hz_mne (va_up_self _ _ _) (by omega)⟩, ⟨f4, va_up_self _ _ _⟩, ⟨a12, hz_mne (hz_mne h12 (by omega)) (by omega)⟩, ⟨a13, hz_mne (hz_mne h13 (by omega)) (by omega)⟩⟩, trivial⟩
  · skip
    have hq : bg f4 0 9 ≤ bg f3 0 9 := Nat.le_of_lt (Nat.lt_of_not_le (fun q => h5 (cmpN_le.mpr q)))
    refine hz_aloadn (pc := 50) 0 (hz_dec kX12_moved 22 rfl) rfl ?_
    refine hz_get (pc := 51) (v := .ref (B + 11)) (hz_dec kX12_moved 23 rfl) fo_X12_42 (hz_mne (hz_mne hO (by omega)) (by omega)) h8 (by omega) (hF.2 12 (by decide) (by decide)) ?_
    refine hz_aloadn (pc := 54) 0 (hz_dec kX12_moved 24 rfl) rfl ?_
    refine hz_get (pc := 55) (v := .ref (B + 10)) (hz_dec kX12_moved 25 rfl) fo_X12_39 (hz_mne (hz_mne hO (by omega)) (by omega)) h8 (by omega) (hF.2 11 (by decide) (by decide)) ?_
    refine hz_callS (pc := 58) (As := [.ref (B + 11), .ref (B + 10)]) (st := []) (hz_dec kX12_moved 26 rfl) co_X12_394 sc_X12_copyBig (c_copyBg (hz_mne (va_up_self _ _ _) (by omega)) (by omega) (by omega) (va_up_self _ _ _) (by omega) (by omega) (by omega)) rfl (by decide) ⟨Nat.le_refl _, Nat.le_refl _⟩ (Nat.le_of_ble_eq_true rfl) rfl (fun r9 z9 M9 hp9 => ?_)
    obtain ⟨rfl, rfl, f5, hf5, rfl⟩ := hp9
    refine hz_mem (pc := 61) (M2 := (va_up (va_up M (B + 10) (.inl (0, 9, .inl (f5)))) (B + 11) (.inl (0, 9, .inl (f4))))) (hz_upc (by omega)) ?_
    refine hz_iconst (pc := 61) (v := nI 3) (hz_dec kX12_moved 27 rfl) (by decide) ?_
    refine hz_istoren (pc := 62) (i := 3) (lo2 := [(3, .int (nI 3)), (0, .ref B), (1, .int t), (2, .int (nI n))]) (hz_dec kX12_moved 28 rfl) rfl (by decide) rfl ?_
    refine hz_pick (pc := 63) [0, 1] rfl ?_
    have hmin : bg f5 0 9 = min (tgT t * n / 160) (tgT 537919487) := by rw [hf5, hf4, Nat.min_eq_right (by rw [← hNn, ← hf4]; exact hq)]
    refine c_moved_l (hz_mne (hz_mne hO (by omega)) (by omega)) hF h8 hz (hz_mne (va_up_self _ _ _) (by omega)) (by rw [hmin]; exact Nat.lt_of_le_of_lt (Nat.min_le_right _ _) hE) ?_ 32 3 rfl (by omega) (by omega) (fun e2 a b => absurd a (by omega))
    exact ⟨by rw [hmin], rfl, ((frl.up (os := [10, 11]) rfl).tr (frl.up (os := [10, 11]) rfl) rfl rfl), ⟨⟨f5, hz_mne (va_up_self _ _ _) (by omega)⟩, ⟨f4, va_up_self _ _ _⟩, ⟨a12, hz_mne (hz_mne h12 (by omega)) (by omega)⟩, ⟨a13, hz_mne (hz_mne h13 (by omega)) (by omega)⟩⟩, trivial⟩
