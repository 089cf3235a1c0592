set_option maxHeartbeats 4000000 in
set_option maxRecDepth 100000 in
theorem l_climbI {κ : hz_C} {z : Nat} {M : hz_M} (hk : ck_k M z) {P : hz_P} {fa ta : Nat} {ff tt : Nat → Int32} {a b : Nat → Nat} (hFa : M fa = .inl (0, 8, .inl ff)) (hTa : M ta = .inl (0, 8, .inl tt)) (hfa : fa < 4 ∨ 8 ≤ fa ∧ fa < z) (hta : ta < 4 ∨ 8 ≤ ta ∧ ta < z) (hfn : ∀ o ∈ [10, 11, 14, 17], fa ≠ o) (htn : ∀ o ∈ [10, 11, 14, 17], ta ≠ o) (hff : ∀ i, i < 8 → ff i = nI (a i) ∧ a i ≤ 15) (htt : ∀ i, i < 8 → tt i = nI (b i) ∧ b i ≤ 15) {p0 : Nat → Int64} {i : Nat} (hi : i < 8) {po : Nat → Int64} (K : ∀ M1, frl 0 [10, 11, 14, 17] M M1 → ck_s M1 → (∃ p : Nat → Int64, M1 14 = .inl (2, 8, .inr (.inl p)) ∧ p i = ky_ss (p0 i) i (a i) (b i - a i) ∧ ∀ x, x < 8 → x ≠ i → p x = po x) → hz_W κ xX4_climb 1 0 0 P 0 0 112 [(3, .int (nI i)), (0, .ref 13), (1, .ref fa), (2, .ref ta)] [] z M1) : ∀ k q M1, k = b i - (a i + q) → q ≤ b i - a i → frl 0 [10, 11, 14, 17] M M1 → ck_s M1 → (∃ p : Nat → Int64, M1 14 = .inl (2, 8, .inr (.inl p)) ∧ p i = ky_ss (p0 i) i (a i) q ∧ ∀ x, x < 8 → x ≠ i → p x = po x) → hz_W κ xX4_climb 1 0 0 P 0 0 25 [(4, .int (nI (a i + q))), (3, .int (nI i)), (0, .ref 13), (1, .ref fa), (2, .ref ta)] [] z M1 := by
  intro k
  induction k using Nat.strongRecOn with
  | ind k ih =>
  intro q M1 hk2 hq hf1 hs1 hE
  have hk1 : ck_k M1 z := hk.fr hf1 rfl rfl
  obtain ⟨hO9, hO13, hz⟩ := id hk1
  obtain ⟨⟨v10, h10⟩, ⟨u11, h11⟩, ⟨d12, h12⟩, ⟨p14, h14⟩, ⟨q15, h15⟩, ⟨q16, h16⟩, ⟨q17, h17⟩, ⟨q18, h18⟩, ⟨q19, h19⟩⟩ := id hs1
  obtain ⟨p, hp, hpi, hpx⟩ := id hE
  have hFa1 : M1 fa = .inl (0, 8, .inl ff) := (hf1.zany hfn).trans hFa
  have hTa1 : M1 ta = .inl (0, 8, .inl tt) := (hf1.zany htn).trans hTa
  obtain ⟨hai, ha15⟩ := hff i hi
  obtain ⟨hbi, hb15⟩ := htt i hi
  refine hz_iload (pc := 25) 0 (hz_dec kX4_climb 17 rfl) rfl ?_
  refine hz_aloadn (pc := 27) 4 (hz_dec kX4_climb 18 rfl) rfl ?_
  refine hz_iloadn (pc := 28) 1 (hz_dec kX4_climb 19 rfl) rfl ?_
  refine hz_iald2 (pc := 29) (j := i) (hz_dec kX4_climb 20 rfl) hTa1 hta rfl (by omega) (by decide) ?_
  refine hz_eqi (pc := 30) hbi ?_
  refine hz_n_ge (pc := 30) (tgt := 112) (hz_dec kX4_climb 21 rfl) (by decide) (by omega) (by omega) (fun h1 => ?_) (fun h1 => ?_)
  · skip
    have e : b i - a i = q := by omega
    have kk := K M1 hf1 hs1
    rw [e] at kk
    refine hz_pick (pc := 112) [1, 2, 3, 4] rfl ?_
    exact kk hE
  · skip
    refine hz_iload (pc := 33) 0 (hz_dec kX4_climb 22 rfl) rfl ?_
    refine hz_bipush (pc := 35) (v := nI 15) (hz_dec kX4_climb 23 rfl) (by decide) ?_
    refine hz_n_ge (pc := 37) (tgt := 112) (hz_dec kX4_climb 24 rfl) (by decide) (by omega) (by omega) (fun h2 => ?_) (fun h2 => ?_)
    · skip
      exact absurd h2 (by omega)
    · skip
      refine hz_aloadn (pc := 40) 2 (hz_dec kX4_climb 25 rfl) rfl ?_
      refine hz_get (pc := 41) (hz_dec kX4_climb 26 rfl) fo_X4_22 hO13 (by decide) (by omega) rfl ?_
      refine hz_iconst (pc := 44) (v := nI 0) (hz_dec kX4_climb 27 rfl) (by decide) ?_
      refine hz_aloadn (pc := 45) 2 (hz_dec kX4_climb 28 rfl) rfl ?_
      refine hz_get (pc := 46) (hz_dec kX4_climb 29 rfl) fo_X4_9 hO13 (by decide) (by omega) rfl ?_
      refine hz_iloadn (pc := 49) 1 (hz_dec kX4_climb 30 rfl) rfl ?_
      refine hz_lald (pc := 50) (j := i) (hz_dec kX4_climb 31 rfl) hp (by decide) (by omega) rfl (by omega) (by decide) ?_
      refine hz_eql (pc := 51) hpi ?_
      refine hz_bipush (pc := 51) (v := nI 8) (hz_dec kX4_climb 32 rfl) (by decide) ?_
      refine hz_xS (pc := 53) (As := [.ref 17, .int (nI 0), .long (ky_ss (p0 i) i (a i) q), .int (nI 8)]) (st := []) (hz_dec kX4_climb 33 rfl) co_X4_36 sc_X0_put (c_put h17 (by decide) (by omega) (by decide) (by decide)) rfl (by decide) ⟨Nat.le_refl _, Nat.le_refl _⟩ (Nat.le_of_ble_eq_true rfl) rfl ?_
      refine hz_aloadn (pc := 56) 2 (hz_dec kX4_climb 34 rfl) rfl ?_
      refine hz_get (pc := 57) (hz_dec kX4_climb 35 rfl) fo_X4_22 (hz_mne hO13 (by decide)) (by decide) (by omega) rfl ?_
      refine hz_bipush (pc := 60) (v := nI 8) (hz_dec kX4_climb 36 rfl) (by decide) ?_
      refine hz_iloadn (pc := 62) 1 (hz_dec kX4_climb 37 rfl) rfl ?_
      refine hz_i2b (pc := 63) (hz_dec kX4_climb 38 rfl) ?_
      refine hz_bast (pc := 64) (j := 8) (hz_dec kX4_climb 39 rfl) (va_up_self _ _ _) (by decide) (by omega) rfl (by omega) (by decide) ?_
      refine hz_mem (pc := 65) (M2 := (va_up M1 17 (.inl (1, 10, .inl (upd (bn_put 0 8 (ky_ss (p0 i) i (a i) q) q17) 8 (((nI (i)).toInt8.toInt32).toInt8.toInt32)))))) (bx_uu _ _ _ _) ?_
      refine hz_aloadn (pc := 65) 2 (hz_dec kX4_climb 40 rfl) rfl ?_
      refine hz_get (pc := 66) (hz_dec kX4_climb 41 rfl) fo_X4_22 (hz_mne hO13 (by decide)) (by decide) (by omega) rfl ?_
      refine hz_bipush (pc := 69) (v := nI 9) (hz_dec kX4_climb 42 rfl) (by decide) ?_
      refine hz_bipush (pc := 71) (v := nI 16) (hz_dec kX4_climb 43 rfl) (by decide) ?_
      refine hz_iload (pc := 73) 0 (hz_dec kX4_climb 44 rfl) rfl ?_
      refine hz_addN (pc := 75) (hz_dec kX4_climb 45 rfl) ?_
      refine hz_i2b (pc := 76) (hz_dec kX4_climb 46 rfl) ?_
      refine hz_bast (pc := 77) (j := 9) (hz_dec kX4_climb 47 rfl) (va_up_self _ _ _) (by decide) (by omega) rfl (by omega) (by decide) ?_
      refine hz_mem (pc := 78) (M2 := (va_up M1 17 (.inl (1, 10, .inl (upd (upd (bn_put 0 8 (ky_ss (p0 i) i (a i) q) q17) 8 (((nI (i)).toInt8.toInt32).toInt8.toInt32)) 9 (((nI (16 + (a i + q))).toInt8.toInt32).toInt8.toInt32)))))) (bx_uu _ _ _ _) ?_
      generalize hL3 : (upd (upd (bn_put 0 8 (ky_ss (p0 i) i (a i) q) q17) 8 (((nI (i)).toInt8.toInt32).toInt8.toInt32)) 9 (((nI (16 + (a i + q))).toInt8.toInt32).toInt8.toInt32)) = s3
      refine hz_aloadn (pc := 78) 2 (hz_dec kX4_climb 48 rfl) rfl ?_
      refine hz_get (pc := 79) (hz_dec kX4_climb 49 rfl) fo_X4_32 (hz_mne hO13 (by decide)) (by decide) (by omega) rfl ?_
      refine hz_aloadn (pc := 82) 2 (hz_dec kX4_climb 50 rfl) rfl ?_
      refine hz_get (pc := 83) (hz_dec kX4_climb 51 rfl) fo_X4_22 (hz_mne hO13 (by decide)) (by decide) (by omega) rfl ?_
      refine hz_iconst (pc := 86) (v := nI 0) (hz_dec kX4_climb 52 rfl) (by decide) ?_
      refine hz_bipush (pc := 87) (v := nI 10) (hz_dec kX4_climb 53 rfl) (by decide) ?_
      have hkA : ck_k (va_up M1 17 (.inl (1, 10, .inl (s3)))) z := hk1.fr (frl.zup (os := [17]) rfl) rfl rfl
      have hsA : ck_s (va_up M1 17 (.inl (1, 10, .inl (s3)))) := ⟨⟨v10, (hz_mne h10 (by decide))⟩, ⟨u11, (hz_mne h11 (by decide))⟩, ⟨d12, (hz_mne h12 (by decide))⟩, ⟨p14, (hz_mne h14 (by decide))⟩, ⟨q15, (hz_mne h15 (by decide))⟩, ⟨q16, (hz_mne h16 (by decide))⟩, ⟨s3, va_up_self _ _ _⟩, ⟨q18, (hz_mne h18 (by decide))⟩, ⟨q19, (hz_mne h19 (by decide))⟩⟩
      refine hz_callV (pc := 89) (a := 9) (As := [.ref 17, .int (nI 0), .int (nI 10)]) (st := []) (hz_dec kX4_climb 54 rfl) co_X4_42 im_X8_digest se_X8_digest rfl (hz_mne hO9 (by decide)) (by decide) (by omega) (c_digF (at_ := 0) (n := 10) hkA hsA (va_up_self _ _ _) (by decide) (by omega) (by decide) (by decide)) rfl (by decide) ⟨Nat.le_refl _, Nat.le_refl _⟩ (Nat.le_of_ble_eq_true rfl) rfl (fun r9 z9 M2 hp9 => ?_)
      obtain ⟨rfl, rfl, hf2, hs2, v2, hv2, hvc2⟩ := hp9
      have e : sh_h s3 0 10 = hs (fun q2 => if q2 < 8 then byl (ky_ss (p0 i) i (a i) q) q2 else if q2 = 8 then i else 16 + (a i + q)) 10 := by
        refine hs_of (fun q2 hq => ?_)
        rw [Nat.zero_add, ← hL3]
        simp only [upd]
        by_cases e9 : q2 = 9
        · subst e9; rw [if_pos rfl, if_neg (by decide), if_neg (by decide), sb_of (c := 16 + (a i + q)) (by rw [bb_un, un_nI (by omega)]; omega), bb_sb (by omega)]; omega
        rw [if_neg e9]
        by_cases e8 : q2 = 8
        · subst e8; rw [if_pos rfl, if_neg (by decide), if_pos rfl, sb_of (c := i) (by rw [bb_un, un_nI (by omega)]; omega), bb_sb (by omega)]; omega
        have hq8 : q2 < 8 := by omega
        have h9 := bn_put_l (at_ := 0) (v := ky_ss (p0 i) i (a i) q) (f := q17) hq8
        rw [Nat.zero_add] at h9
        have hb := byl_lt (ky_ss (p0 i) i (a i) q) q2
        rw [if_neg e8, if_pos hq8, h9, bb_sb hb]; omega
      have hp2 : M2 14 = .inl (2, 8, .inr (.inl p)) := (hf2.z 14 rfl).trans (hz_mne hp (by decide))
      have hO9b : M2 9 = .inr (8, [.ref 10, .ref 11, .ref 12]) := (hf2.z 9 rfl).trans (hz_mne hO9 (by decide))
      have hO13b : M2 13 = .inr (4, [.ref 9, .ref 14, .ref 15, .ref 16, .ref 17, .ref 18, .ref 19]) := (hf2.z 13 rfl).trans (hz_mne hO13 (by decide))
      refine hz_aloadn (pc := 92) 2 (hz_dec kX4_climb 55 rfl) rfl ?_
      refine hz_get (pc := 93) (hz_dec kX4_climb 56 rfl) fo_X4_9 hO13b (by decide) (by omega) rfl ?_
      refine hz_iloadn (pc := 96) 1 (hz_dec kX4_climb 57 rfl) rfl ?_
      refine hz_aloadn (pc := 97) 2 (hz_dec kX4_climb 58 rfl) rfl ?_
      refine hz_get (pc := 98) (hz_dec kX4_climb 59 rfl) fo_X4_32 hO13b (by decide) (by omega) rfl ?_
      refine hz_iconst (pc := 101) (v := nI 0) (hz_dec kX4_climb 60 rfl) (by decide) ?_
      refine hz_xV (pc := 102) (a := 9) (As := [.int (nI 0)]) (st := [.int (nI i), .ref 14]) (hz_dec kX4_climb 61 rfl) co_X4_48 im_X8_limbOf se_X8_limbOf rfl hO9b (by decide) (by omega) (c_limbOf (k := 0) hO9b hv2 ⟨by decide, by omega⟩ ⟨by decide, by omega⟩ (by decide)) rfl (by decide) ⟨Nat.le_refl _, Nat.le_refl _⟩ (Nat.le_of_ble_eq_true rfl) rfl ?_
      have e2 : sh_lim v2 0 = ky_ss (p0 i) i (a i) (q + 1) := by rw [sh_lim_c (by decide) hvc2, e]; rfl
      refine hz_eql (pc := 105) e2 ?_
      refine hz_last (pc := 105) (j := i) (hz_dec kX4_climb 62 rfl) hp2 (by decide) (by omega) rfl (by omega) (by decide) ?_
      refine hz_incN (pc := 106) (i := 4) (lo2 := [(4, .int (nI (a i + q + 1))), (3, .int (nI i)), (0, .ref 13), (1, .ref fa), (2, .ref ta)]) 0 (hz_dec kX4_climb 63 rfl) rfl (by decide) rfl ?_
      refine hz_goto (pc := 109) (tgt := 25) (hz_dec kX4_climb 64 rfl) (by decide) ?_
      rw [show a i + q + 1 = a i + (q + 1) by omega]
      refine hz_pick (pc := 25) [0, 1, 2, 3, 4] rfl ?_
      obtain ⟨⟨x10, y10⟩, ⟨x11, y11⟩, ⟨x12, y12⟩, -, ⟨x15, y15⟩, ⟨x16, y16⟩, ⟨x17, y17⟩, ⟨x18, y18⟩, ⟨x19, y19⟩⟩ := hs2
      refine ih (b i - (a i + (q + 1))) (by omega) (q + 1) _ rfl (by omega) (((hf1.tr (os3 := [10, 11, 14, 17]) (frl.zup (os := [17]) rfl) rfl rfl).tr (os3 := [10, 11, 14, 17]) hf2 rfl rfl).tr (frl.zup (os := [14]) rfl) rfl rfl) ⟨⟨x10, hz_mne y10 (by decide)⟩, ⟨x11, hz_mne y11 (by decide)⟩, ⟨x12, hz_mne y12 (by decide)⟩, ⟨_, va_up_self _ _ _⟩, ⟨x15, hz_mne y15 (by decide)⟩, ⟨x16, hz_mne y16 (by decide)⟩, ⟨x17, hz_mne y17 (by decide)⟩, ⟨x18, hz_mne y18 (by decide)⟩, ⟨x19, hz_mne y19 (by decide)⟩⟩ ⟨_, va_up_self _ _ _, ?_, fun x hx hxi => ?_⟩
      · simp [vp_updL]
      · simp only [vp_updL]; rw [if_neg hxi]; exact hpx x hx hxi
set_option maxHeartbeats 4000000 in
set_option maxRecDepth 100000 in
theorem l_climbO {κ : hz_C} {z : Nat} {M : hz_M} (hk : ck_k M z) {P : hz_P} {fa ta : Nat} {ff tt : Nat → Int32} {a b : Nat → Nat} (hFa : M fa = .inl (0, 8, .inl ff)) (hTa : M ta = .inl (0, 8, .inl tt)) (hfa : fa < 4 ∨ 8 ≤ fa ∧ fa < z) (hta : ta < 4 ∨ 8 ≤ ta ∧ ta < z) (hfn : ∀ o ∈ [10, 11, 14, 17], fa ≠ o) (htn : ∀ o ∈ [10, 11, 14, 17], ta ≠ o) (hff : ∀ i, i < 8 → ff i = nI (a i) ∧ a i ≤ 15) (htt : ∀ i, i < 8 → tt i = nI (b i) ∧ b i ≤ 15) {p0 : Nat → Int64} (K : ∀ M1, frl 0 [10, 11, 14, 17] M M1 → ck_s M1 → (∃ p : Nat → Int64, M1 14 = .inl (2, 8, .inr (.inl p)) ∧ ∀ x, x < 8 → p x = ky_ss (p0 x) x (a x) (b x - a x)) → P none z M1) : ∀ k i M1, k = 8 - i → i ≤ 8 → frl 0 [10, 11, 14, 17] M M1 → ck_s M1 → (∃ p : Nat → Int64, M1 14 = .inl (2, 8, .inr (.inl p)) ∧ (∀ x, x < i → p x = ky_ss (p0 x) x (a x) (b x - a x)) ∧ ∀ x, i ≤ x → x < 8 → p x = p0 x) → hz_W κ xX4_climb 1 0 0 P 0 0 2 [(3, .int (nI i)), (0, .ref 13), (1, .ref fa), (2, .ref ta)] [] z M1 := by
  intro k
  induction k using Nat.strongRecOn with
  | ind k ih =>
  intro i M1 hk2 hi hf1 hs1 hE
  have hk1 : ck_k M1 z := hk.fr hf1 rfl rfl
  obtain ⟨hO9, hO13, hz⟩ := id hk1
  obtain ⟨⟨v10, h10⟩, ⟨u11, h11⟩, ⟨d12, h12⟩, ⟨p14, h14⟩, ⟨q15, h15⟩, ⟨q16, h16⟩, ⟨q17, h17⟩, ⟨q18, h18⟩, ⟨q19, h19⟩⟩ := id hs1
  obtain ⟨p, hp, hpl, hph⟩ := id hE
  have hFa1 : M1 fa = .inl (0, 8, .inl ff) := (hf1.zany hfn).trans hFa
  have hTa1 : M1 ta = .inl (0, 8, .inl tt) := (hf1.zany htn).trans hTa
  refine hz_iloadn (pc := 2) 0 (hz_dec kX4_climb 2 rfl) rfl ?_
  refine hz_bipush (pc := 3) (v := nI 8) (hz_dec kX4_climb 3 rfl) (by decide) ?_
  refine hz_n_ge (pc := 5) (tgt := 118) (hz_dec kX4_climb 4 rfl) (by decide) (by omega) (by omega) (fun h1 => ?_) (fun h1 => ?_)
  · skip
    exact hz_vret (pc := 118) (hz_dec kX4_climb 67 rfl) rfl (K M1 hf1 hs1 ⟨p, hp, fun x hx => hpl x (by omega)⟩)
  · skip
    refine hz_iloadn (pc := 8) 0 (hz_dec kX4_climb 5 rfl) rfl ?_
    refine hz_aloadn (pc := 9) 2 (hz_dec kX4_climb 6 rfl) rfl ?_
    refine hz_alen2 (pc := 10) (hz_dec kX4_climb 7 rfl) hFa1 hfa ?_
    refine hz_n_ge (pc := 11) (tgt := 118) (hz_dec kX4_climb 8 rfl) (by decide) (by omega) (by omega) (fun h2 => ?_) (fun h2 => ?_)
    · skip
      exact absurd h2 (by omega)
    · skip
      refine hz_iloadn (pc := 14) 0 (hz_dec kX4_climb 9 rfl) rfl ?_
      refine hz_aloadn (pc := 15) 3 (hz_dec kX4_climb 10 rfl) rfl ?_
      refine hz_alen2 (pc := 16) (hz_dec kX4_climb 11 rfl) hTa1 hta ?_
      refine hz_n_ge (pc := 17) (tgt := 118) (hz_dec kX4_climb 12 rfl) (by decide) (by omega) (by omega) (fun h3 => ?_) (fun h3 => ?_)
      · skip
        exact absurd h3 (by omega)
      · skip
        obtain ⟨hai, ha15⟩ := hff i h1
        refine hz_aloadn (pc := 20) 2 (hz_dec kX4_climb 13 rfl) rfl ?_
        refine hz_iloadn (pc := 21) 0 (hz_dec kX4_climb 14 rfl) rfl ?_
        refine hz_iald2 (pc := 22) (j := i) (hz_dec kX4_climb 15 rfl) hFa1 hfa rfl (by omega) (by decide) ?_
        refine hz_eqi (pc := 23) hai ?_
        refine hz_istore (pc := 23) (i := 4) (lo2 := [(4, .int (nI (a i))), (3, .int (nI i)), (0, .ref 13), (1, .ref fa), (2, .ref ta)]) (hz_dec kX4_climb 16 rfl) (by decide) rfl ?_
        refine hz_pick (pc := 25) [0, 1, 2, 3, 4] rfl ?_
        refine l_climbI hk hFa hTa hfa hta hfn htn hff htt (p0 := p0) h1 (po := p) (fun M2 hf2 hs2 hE2 => ?_) (b i - a i) 0 M1 rfl (by omega) hf1 hs1 ⟨p, hp, hph i (Nat.le_refl i) h1, fun x _ _ => rfl⟩
        obtain ⟨p2, hp2, hp2i, hp2x⟩ := hE2
        refine hz_incN (pc := 112) (i := 3) (lo2 := [(3, .int (nI (i + 1))), (0, .ref 13), (1, .ref fa), (2, .ref ta)]) 0 (hz_dec kX4_climb 65 rfl) rfl (by decide) rfl ?_
        refine hz_goto (pc := 115) (tgt := 2) (hz_dec kX4_climb 66 rfl) (by decide) ?_
        refine hz_pick (pc := 2) [0, 1, 2, 3] rfl ?_
        refine ih (8 - (i + 1)) (by omega) (i + 1) M2 rfl (by omega) hf2 hs2 ⟨p2, hp2, fun x hx => ?_, fun x hx h8 => ?_⟩
        · rcases Nat.lt_or_ge x i with r | r
          · rw [hp2x x (by omega) (by omega)]; exact hpl x r
          · have e : x = i := by omega
            subst e; exact hp2i
        · rw [hp2x x h8 (by omega)]; exact hph x (by omega) h8
set_option maxHeartbeats 4000000 in
set_option maxRecDepth 100000 in
theorem c_climb {κ : hz_C} {z : Nat} {M : hz_M} (hk : ck_k M z) (hsc : ck_s M) {fa ta : Nat} {ff tt : Nat → Int32} {a b : Nat → Nat} (hFa : M fa = .inl (0, 8, .inl ff)) (hTa : M ta = .inl (0, 8, .inl tt)) (hfa : fa < 4 ∨ 8 ≤ fa ∧ fa < z) (hta : ta < 4 ∨ 8 ≤ ta ∧ ta < z) (hfn : ∀ o ∈ [10, 11, 14, 17], fa ≠ o) (htn : ∀ o ∈ [10, 11, 14, 17], ta ≠ o) (hff : ∀ i, i < 8 → ff i = nI (a i) ∧ a i ≤ 15) (htt : ∀ i, i < 8 → tt i = nI (b i) ∧ b i ≤ 15) {p0 : Nat → Int64} (hp0 : M 14 = .inl (2, 8, .inr (.inl p0))) : hz_Mt κ xX4_climb 1 0 0 [.ref 13, .ref fa, .ref ta] z M (ck_F M z [10, 11, 14, 17] none (fun M1 => ∃ p : Nat → Int64, M1 14 = .inl (2, 8, .inr (.inl p)) ∧ ∀ x, x < 8 → p x = ky_ss (p0 x) x (a x) (b x - a x))) := by
  refine hz_ent (lo := [(0, .ref 13), (1, .ref fa), (2, .ref ta)]) (by decide) (Nat.le_of_ble_eq_true rfl) rfl ?_
  refine hz_iconst (pc := 0) (v := nI 0) (hz_dec kX4_climb 0 rfl) (by decide) ?_
  refine hz_istoren (pc := 1) (i := 3) (lo2 := [(3, .int (nI 0)), (0, .ref 13), (1, .ref fa), (2, .ref ta)]) (hz_dec kX4_climb 1 rfl) rfl (by decide) rfl ?_
  refine hz_pick (pc := 2) [0, 1, 2, 3] rfl ?_
  exact l_climbO hk hFa hTa hfa hta hfn htn hff htt (fun M1 h1 h2 h3 => ⟨rfl, rfl, h1, h2, h3⟩) 8 0 M rfl (by omega) frl.rf hsc ⟨p0, hp0, fun x hx => absurd hx (by omega), fun x _ _ => rfl⟩
set_option maxHeartbeats 4000000 in
set_option maxRecDepth 100000 in
theorem l_cadE {κ : hz_C} {z : Nat} {M : hz_M} (hk : ck_k M z) (hsc : ck_s M) {p : Nat → Int64} (hp : M 14 = .inl (2, 8, .inr (.inl p))) {P : hz_P} (K : ∀ s : Nat → Int32, (∀ j, j < 64 → s j = sb_b (byl (p (j / 8)) (j % 8))) → hz_W κ xX4_addressOfEnds 1 0 0 P 0 0 33 [(0, .ref 13)] [] z (va_up M 18 (.inl (1, 64, .inl s)))) : ∀ k i s, k = 8 - i → i ≤ 8 → (∀ j, j < 8 * i → s j = sb_b (byl (p (j / 8)) (j % 8))) → hz_W κ xX4_addressOfEnds 1 0 0 P 0 0 2 [(1, .int (nI i)), (0, .ref 13)] [] z (va_up M 18 (.inl (1, 64, .inl s))) := by
  intro k
  induction k using Nat.strongRecOn with
  | ind k ih =>
  intro i s hk2 hi hs
  obtain ⟨hO9, hO13, hz⟩ := id hk
  obtain ⟨⟨v10, h10⟩, ⟨u11, h11⟩, ⟨d12, h12⟩, ⟨p14, h14⟩, ⟨q15, h15⟩, ⟨q16, h16⟩, ⟨q17, h17⟩, ⟨q18, h18⟩, ⟨q19, h19⟩⟩ := id hsc
  refine hz_iloadn (pc := 2) 0 (hz_dec kX4_addressOfEnds 2 rfl) rfl ?_
  refine hz_bipush (pc := 3) (v := nI 8) (hz_dec kX4_addressOfEnds 3 rfl) (by decide) ?_
  refine hz_n_ge (pc := 5) (tgt := 33) (hz_dec kX4_addressOfEnds 4 rfl) (by decide) (by omega) (by omega) (fun h1 => ?_) (fun h1 => ?_)
  · skip
    have e : i = 8 := by omega
    subst e
    refine hz_pick (pc := 33) [1] rfl ?_
    exact K s hs
  · skip
    refine hz_aloadn (pc := 8) 1 (hz_dec kX4_addressOfEnds 5 rfl) rfl ?_
    refine hz_get (pc := 9) (hz_dec kX4_addressOfEnds 6 rfl) fo_X4_26 (hz_mne hO13 (by decide)) (by decide) (by omega) rfl ?_
    refine hz_bipush (pc := 12) (v := nI 8) (hz_dec kX4_addressOfEnds 7 rfl) (by decide) ?_
    refine hz_iloadn (pc := 14) 0 (hz_dec kX4_addressOfEnds 8 rfl) rfl ?_
    refine hz_mulN (pc := 15) (hz_dec kX4_addressOfEnds 9 rfl) ?_
    refine hz_aloadn (pc := 16) 1 (hz_dec kX4_addressOfEnds 10 rfl) rfl ?_
    refine hz_get (pc := 17) (hz_dec kX4_addressOfEnds 11 rfl) fo_X4_9 (hz_mne hO13 (by decide)) (by decide) (by omega) rfl ?_
    refine hz_iloadn (pc := 20) 0 (hz_dec kX4_addressOfEnds 12 rfl) rfl ?_
    refine hz_lald (pc := 21) (j := i) (hz_dec kX4_addressOfEnds 13 rfl) (hz_mne hp (by decide)) (by decide) (by omega) rfl (by omega) (by decide) ?_
    refine hz_bipush (pc := 22) (v := nI 8) (hz_dec kX4_addressOfEnds 14 rfl) (by decide) ?_
    refine hz_xS (pc := 24) (As := [.ref 18, .int (nI (8 * i)), .long (p i), .int (nI 8)]) (st := []) (hz_dec kX4_addressOfEnds 15 rfl) co_X4_36 sc_X0_put (c_put (va_up_self _ _ _) (by decide) (by omega) (by decide) (by omega)) rfl (by decide) ⟨Nat.le_refl _, Nat.le_refl _⟩ (Nat.le_of_ble_eq_true rfl) rfl ?_
    refine hz_mem (pc := 27) (M2 := (va_up M 18 (.inl (1, 64, .inl (bn_put (8 * i) 8 (p i) s))))) (bx_uu _ _ _ _) ?_
    refine hz_incN (pc := 27) (i := 1) (lo2 := [(1, .int (nI (i + 1))), (0, .ref 13)]) 0 (hz_dec kX4_addressOfEnds 16 rfl) rfl (by decide) rfl ?_
    refine hz_goto (pc := 30) (tgt := 2) (hz_dec kX4_addressOfEnds 17 rfl) (by decide) ?_
    refine hz_pick (pc := 2) [0, 1] rfl ?_
    refine ih (8 - (i + 1)) (by omega) (i + 1) _ rfl (by omega) (fun j hj => ?_)
    rcases Nat.lt_or_ge j (8 * i) with r | r
    · rw [bn_put_out _ _ _ _ (by omega)]; exact hs j r
    · obtain ⟨j2, rfl⟩ : ∃ j2, j = 8 * i + j2 := ⟨j - 8 * i, by omega⟩
      rw [bn_put_l (by omega), show (8 * i + j2) / 8 = i by omega, show (8 * i + j2) % 8 = j2 by omega]
set_option maxHeartbeats 4000000 in
set_option maxRecDepth 100000 in
theorem c_cadE {κ : hz_C} {z : Nat} {M : hz_M} (hk : ck_k M z) (hsc : ck_s M) {p : Nat → Int64} (hp : M 14 = .inl (2, 8, .inr (.inl p))) : hz_Mt κ xX4_addressOfEnds 1 0 0 [.ref 13] z M (ck_F M z [10, 11, 18] (some (.long (ky_ad p))) (fun _ => True)) := by
  refine hz_ent (lo := [(0, .ref 13)]) (by decide) (Nat.le_of_ble_eq_true rfl) rfl ?_
  obtain ⟨hO9, hO13, hz⟩ := id hk
  obtain ⟨⟨v10, h10⟩, ⟨u11, h11⟩, ⟨d12, h12⟩, ⟨p14, h14⟩, ⟨q15, h15⟩, ⟨q16, h16⟩, ⟨q17, h17⟩, ⟨q18, h18⟩, ⟨q19, h19⟩⟩ := id hsc
  refine hz_iconst (pc := 0) (v := nI 0) (hz_dec kX4_addressOfEnds 0 rfl) (by decide) ?_
  refine hz_istoren (pc := 1) (i := 1) (lo2 := [(1, .int (nI 0)), (0, .ref 13)]) (hz_dec kX4_addressOfEnds 1 rfl) rfl (by decide) rfl ?_
  refine hz_pick (pc := 2) [0, 1] rfl ?_
  refine hz_mem (hz_upid h18).symm ?_
  refine l_cadE hk hsc hp (fun s hsS => ?_) 8 0 q18 rfl (by omega) (fun j hj => absurd hj (by omega))
  refine hz_aloadn (pc := 33) 0 (hz_dec kX4_addressOfEnds 18 rfl) rfl ?_
  refine hz_get (pc := 34) (hz_dec kX4_addressOfEnds 19 rfl) fo_X4_32 (hz_mne hO13 (by decide)) (by decide) (by omega) rfl ?_
  refine hz_aloadn (pc := 37) 0 (hz_dec kX4_addressOfEnds 20 rfl) rfl ?_
  refine hz_get (pc := 38) (hz_dec kX4_addressOfEnds 21 rfl) fo_X4_26 (hz_mne hO13 (by decide)) (by decide) (by omega) rfl ?_
  refine hz_iconst (pc := 41) (v := nI 0) (hz_dec kX4_addressOfEnds 22 rfl) (by decide) ?_
  refine hz_bipush (pc := 42) (v := nI 64) (hz_dec kX4_addressOfEnds 23 rfl) (by decide) ?_
  have hkA : ck_k (va_up M 18 (.inl (1, 64, .inl (s)))) z := hk.fr (frl.zup (os := [18]) rfl) rfl rfl
  have hsA : ck_s (va_up M 18 (.inl (1, 64, .inl (s)))) := ⟨⟨v10, (hz_mne h10 (by decide))⟩, ⟨u11, (hz_mne h11 (by decide))⟩, ⟨d12, (hz_mne h12 (by decide))⟩, ⟨p14, (hz_mne h14 (by decide))⟩, ⟨q15, (hz_mne h15 (by decide))⟩, ⟨q16, (hz_mne h16 (by decide))⟩, ⟨q17, (hz_mne h17 (by decide))⟩, ⟨s, va_up_self _ _ _⟩, ⟨q19, (hz_mne h19 (by decide))⟩⟩
  refine hz_callV (pc := 44) (a := 9) (As := [.ref 18, .int (nI 0), .int (nI 64)]) (st := []) (hz_dec kX4_addressOfEnds 24 rfl) co_X4_42 im_X8_digest se_X8_digest rfl (hz_mne hO9 (by decide)) (by decide) (by omega) (c_digF (at_ := 0) (n := 64) hkA hsA (va_up_self _ _ _) (by decide) (by omega) (by decide) (by decide)) rfl (by decide) ⟨Nat.le_refl _, Nat.le_refl _⟩ (Nat.le_of_ble_eq_true rfl) rfl (fun r9 z9 M2 hp9 => ?_)
  obtain ⟨rfl, rfl, hf2, hs2, v2, hv2, hvc2⟩ := hp9
  have e : sh_h s 0 64 = hs (fun q => byl (p (q / 8)) (q % 8)) 64 := hs_of (fun q hq => by rw [Nat.zero_add, hsS q hq, bb_sb (byl_lt _ _)]; exact (Nat.mod_eq_of_lt (byl_lt _ _)).symm)
  have hO9b : M2 9 = .inr (8, [.ref 10, .ref 11, .ref 12]) := (hf2.z 9 rfl).trans (hz_mne hO9 (by decide))
  have hO13b : M2 13 = .inr (4, [.ref 9, .ref 14, .ref 15, .ref 16, .ref 17, .ref 18, .ref 19]) := (hf2.z 13 rfl).trans (hz_mne hO13 (by decide))
  refine hz_aloadn (pc := 47) 0 (hz_dec kX4_addressOfEnds 25 rfl) rfl ?_
  refine hz_get (pc := 48) (hz_dec kX4_addressOfEnds 26 rfl) fo_X4_32 hO13b (by decide) (by omega) rfl ?_
  refine hz_iconst (pc := 51) (v := nI 0) (hz_dec kX4_addressOfEnds 27 rfl) (by decide) ?_
  refine hz_xV (pc := 52) (a := 9) (As := [.int (nI 0)]) (st := []) (hz_dec kX4_addressOfEnds 28 rfl) co_X4_48 im_X8_limbOf se_X8_limbOf rfl hO9b (by decide) (by omega) (c_limbOf (k := 0) hO9b hv2 ⟨by decide, by omega⟩ ⟨by decide, by omega⟩ (by decide)) rfl (by decide) ⟨Nat.le_refl _, Nat.le_refl _⟩ (Nat.le_of_ble_eq_true rfl) rfl ?_
  exact hz_lret (pc := 55) (hz_dec kX4_addressOfEnds 29 rfl) rfl ⟨by rw [sh_lim_c (by decide) hvc2, e]; rfl, rfl, (frl.zup (os := [18]) rfl).tr hf2 rfl rfl, hs2, trivial⟩
theorem st_0 : ∀ i, i < 8 → hz_sf 2 i = nI 0 ∧ (0 : Nat) ≤ 15 := by decide +kernel
theorem st_15 : ∀ i, i < 8 → hz_sf 3 i = nI 15 ∧ (15 : Nat) ≤ 15 := by decide +kernel
set_option maxHeartbeats 4000000 in
set_option maxRecDepth 100000 in
theorem c_cadO {κ : hz_C} {z : Nat} {M : hz_M} (hk : ck_k M z) (hsc : ck_s M) {sd : Int64} : hz_Mt κ xX4_addressOf 2 0 0 [.ref 13, .long sd] z M (ck_F M z [10, 11, 14, 17, 18] (some (.long (ky_a sd))) (fun _ => True)) := by
  refine hz_ent (lo := [(0, .ref 13), (1, .long sd)]) (by decide) (Nat.le_of_ble_eq_true rfl) rfl ?_
  refine hz_stat (fun hT => ?_)
  obtain ⟨hO9, hO13, hz⟩ := id hk
  obtain ⟨⟨v10, h10⟩, ⟨u11, h11⟩, ⟨d12, h12⟩, ⟨p14, h14⟩, ⟨q15, h15⟩, ⟨q16, h16⟩, ⟨q17, h17⟩, ⟨q18, h18⟩, ⟨q19, h19⟩⟩ := id hsc
  refine hz_aloadn (pc := 0) 0 (hz_dec kX4_addressOf 0 rfl) rfl ?_
  refine hz_lloadn (pc := 1) 1 (hz_dec kX4_addressOf 1 rfl) rfl ?_
  refine hz_callV (pc := 2) (a := 13) (As := [.long sd]) (st := []) (hz_dec kX4_addressOf 2 rfl) co_X4_58 im_X4_startFrom se_X4_startFrom rfl hO13 (by decide) (by omega) (c_start (sd := sd) hk hsc) rfl (by decide) ⟨Nat.le_refl _, Nat.le_refl _⟩ (Nat.le_of_ble_eq_true rfl) rfl (fun r9 z9 M1 hp9 => ?_)
  obtain ⟨rfl, rfl, hf1, hs1, p1, hp1, hpc1⟩ := hp9
  have hk1 : ck_k M1 z := hk.fr hf1 rfl rfl
  refine hz_aloadn (pc := 5) 0 (hz_dec kX4_addressOf 3 rfl) rfl ?_
  refine hz_gets (pc := 6) (k := 2) (hz_dec kX4_addressOf 4 rfl) (by decide) gs_X4_62 ?_
  refine hz_gets (pc := 9) (k := 3) (hz_dec kX4_addressOf 5 rfl) (by decide) gs_X4_69 ?_
  have s2 : M1 2 = .inl (0, 8, .inl (hz_sf 2)) := (hf1.z 2 rfl).trans (hT 2 (by decide))
  have s3 : M1 3 = .inl (0, 8, .inl (hz_sf 3)) := (hf1.z 3 rfl).trans (hT 3 (by decide))
  refine hz_callV (pc := 12) (a := 13) (As := [.ref 2, .ref 3]) (st := []) (hz_dec kX4_addressOf 6 rfl) co_X4_65 im_X4_climb se_X4_climb rfl hk1.2.1 (by decide) (by omega) (c_climb (a := fun _ => 0) (b := fun _ => 15) (p0 := p1) hk1 hs1 s2 s3 (Or.inl (by decide)) (Or.inl (by decide)) (by decide) (by decide) st_0 st_15 hp1) rfl (by decide) ⟨Nat.le_refl _, Nat.le_refl _⟩ (Nat.le_of_ble_eq_true rfl) rfl (fun r9 z9 M2 hp9 => ?_)
  obtain ⟨rfl, rfl, hf2, hs2, p2, hp2, hpc2⟩ := hp9
  have hk2 : ck_k M2 z := hk1.fr hf2 rfl rfl
  refine hz_aloadn (pc := 15) 0 (hz_dec kX4_addressOf 7 rfl) rfl ?_
  refine hz_callV (pc := 16) (a := 13) (As := []) (st := []) (hz_dec kX4_addressOf 8 rfl) co_X4_72 im_X4_addressOfEnds se_X4_addressOfEnds rfl hk2.2.1 (by decide) (by omega) (c_cadE hk2 hs2 hp2) rfl (by decide) ⟨Nat.le_refl _, Nat.le_refl _⟩ (Nat.le_of_ble_eq_true rfl) rfl (fun r9 z9 M3 hp9 => ?_)
  obtain ⟨rfl, rfl, hf3, hs3, -⟩ := hp9
  exact hz_lret (pc := 19) (hz_dec kX4_addressOf 9 rfl) rfl ⟨by rw [ky_ad_c (g := fun i => ky_ss (ky_b sd i) i 0 15) (fun i hi => by rw [hpc2 i hi, hpc1 i hi])]; rfl, rfl, (hf1.tr (os3 := [10, 11, 14, 17, 18]) hf2 rfl rfl).tr hf3 rfl rfl, hs3, trivial⟩
