theorem cpy_in {f g : Nat → Int32} {a s j : Nat} (h : j < s) : va_cpy f g a 0 s j = f (a + j) := by
  unfold va_cpy
  rw [if_pos (by omega)]
  congr 1
theorem bb_nI {n : Nat} (h : n < 256) : bb (nI n) = n := by rw [bb_un, un_nI (by omega), Nat.mod_eq_of_lt h]
set_option maxHeartbeats 4000000 in
set_option maxRecDepth 100000 in
theorem c_readD {κ : hz_C} {z : Nat} {M : hz_M} (hk : ck_k M z) (hsc : ck_s M) {b nb at_ s n : Nat} {f : Nat → Int32} (hB : M b = .inl (1, nb, .inl f)) (hb8 : 8 ≤ b) (hbz : b < z) (hnb : nb < 2 ^ 24) (hs0 : 0 < s) (hs : s ≤ 358) (hrr : at_ + s ≤ nb) (hn4 : n ≤ 4) (hfn : f at_ = nI n) (hsz : 2 + 73 * n ≤ s) (hbo : b ≠ 19) : hz_Mt κ xX4_readDigits 2 0 0 [.ref 13, .ref b, .int (nI at_), .int (nI s)] z M (ck_F M z [10, 11, 15, 19] none (fun M2 => ∃ q : Nat → Int32, M2 15 = .inl (0, 8, .inl q) ∧ ∀ j, j < 8 → q j = nI (dgA (sh_h (sgB f at_ n) 0 s 0) j))) := by
  refine hz_ent (lo := [(0, .ref 13), (1, .ref b), (2, .int (nI at_)), (3, .int (nI s))]) (by decide) (Nat.le_of_ble_eq_true rfl) rfl ?_
  obtain ⟨hO9, hO13, hz⟩ := id hk
  obtain ⟨⟨v10, h10⟩, ⟨u11, h11⟩, ⟨d12, h12⟩, ⟨p14, h14⟩, ⟨q15, h15⟩, ⟨q16, h16⟩, ⟨q17, h17⟩, ⟨q18, h18⟩, ⟨q19, h19⟩⟩ := id hsc
  refine hz_iloadn (pc := 0) 3 (hz_dec kX4_readDigits 0 rfl) rfl ?_
  refine hz_iconst (pc := 1) (v := nI 1) (hz_dec kX4_readDigits 1 rfl) (by decide) ?_
  refine hz_n_lt (pc := 2) (tgt := 26) (hz_dec kX4_readDigits 2 rfl) (by decide) (by omega) (by omega) (fun r1 => ?_) (fun r1 => ?_)
  · skip
    exact absurd (by assumption) (by omega)
  · skip
    refine hz_iloadn (pc := 5) 3 (hz_dec kX4_readDigits 3 rfl) rfl ?_
    refine hz_aloadn (pc := 6) 0 (hz_dec kX4_readDigits 4 rfl) rfl ?_
    refine hz_get (pc := 7) (hz_dec kX4_readDigits 5 rfl) fo_X4_29 hO13 (by decide) (by omega) rfl ?_
    refine hz_alen (pc := 10) (hz_dec kX4_readDigits 6 rfl) h19 (by decide) (by decide) (by omega) ?_
    refine hz_n_gt (pc := 11) (tgt := 26) (hz_dec kX4_readDigits 7 rfl) (by decide) (by omega) (by omega) (fun r2 => ?_) (fun r2 => ?_)
    · skip
      exact absurd (by assumption) (by omega)
    · skip
      refine hz_iloadn (pc := 14) 2 (hz_dec kX4_readDigits 8 rfl) rfl ?_
      refine hz_z_lt (pc := 15) (tgt := 26) (hz_dec kX4_readDigits 9 rfl) (by decide) (by omega) ?_
      refine hz_iloadn (pc := 18) 2 (hz_dec kX4_readDigits 10 rfl) rfl ?_
      refine hz_aloadn (pc := 19) 1 (hz_dec kX4_readDigits 11 rfl) rfl ?_
      refine hz_alen (pc := 20) (hz_dec kX4_readDigits 12 rfl) hB (by decide) hb8 hbz ?_
      refine hz_iloadn (pc := 21) 3 (hz_dec kX4_readDigits 13 rfl) rfl ?_
      refine hz_subN (pc := 22) (hz_dec kX4_readDigits 14 rfl) (by omega) ?_
      refine hz_n_le (pc := 23) (tgt := 27) (hz_dec kX4_readDigits 15 rfl) (by decide) (by omega) (by omega) (fun r4 => ?_) (fun r4 => ?_)
      · skip
        refine hz_aloadn (pc := 27) 1 (hz_dec kX4_readDigits 17 rfl) rfl ?_
        refine hz_iloadn (pc := 28) 2 (hz_dec kX4_readDigits 18 rfl) rfl ?_
        refine hz_aloadn (pc := 29) 0 (hz_dec kX4_readDigits 19 rfl) rfl ?_
        refine hz_get (pc := 30) (hz_dec kX4_readDigits 20 rfl) fo_X4_29 hO13 (by decide) (by omega) rfl ?_
        refine hz_iconst (pc := 33) (v := nI 0) (hz_dec kX4_readDigits 21 rfl) (by decide) ?_
        refine hz_iloadn (pc := 34) 3 (hz_dec kX4_readDigits 22 rfl) rfl ?_
        refine hz_copyB (pc := 35) (hz_dec kX4_readDigits 23 rfl) ac_X4_80 hB hb8 hbz h19 (by decide) (by omega) hrr (by omega) (by omega) (by decide) (by decide) (by decide) ?_
        refine hz_iconst (pc := 38) (v := nI 4) (hz_dec kX4_readDigits 24 rfl) (by decide) ?_
        refine hz_aloadn (pc := 39) 0 (hz_dec kX4_readDigits 25 rfl) rfl ?_
        refine hz_get (pc := 40) (hz_dec kX4_readDigits 26 rfl) fo_X4_29 (hz_mne hO13 (by decide)) (by decide) (by omega) rfl ?_
        refine hz_iconst (pc := 43) (v := nI 0) (hz_dec kX4_readDigits 27 rfl) (by decide) ?_
        refine hz_bald (pc := 44) (j := 0) (hz_dec kX4_readDigits 28 rfl) (va_up_self _ _ _) (by decide) (by omega) rfl (by omega) (by decide) ?_
        refine hz_sipush (pc := 45) (v := nI 255) (hz_dec kX4_readDigits 29 rfl) (by decide) ?_
        refine hz_andB (pc := 48) (hz_dec kX4_readDigits 30 rfl) ?_
        refine hz_eqi (pc := 49) (w := nI n) (by rw [cpy_in hs0, Nat.add_zero, hfn, bb_nI (by omega)]) ?_
        refine hz_xS (pc := 49) (As := [.int (nI 4), .int (nI n)]) (st := []) (hz_dec kX4_readDigits 31 rfl) co_X4_86 sc_J9_min_7cf53 (c_min (a := 4) (e := n) (by decide) (by omega)) rfl (by decide) ⟨Nat.le_refl _, Nat.le_refl _⟩ (Nat.le_of_ble_eq_true rfl) rfl ?_
        refine hz_eqi (pc := 52) (w := nI n) (by rw [Nat.min_eq_right hn4]) ?_
        refine hz_istore (pc := 52) (i := 4) (lo2 := [(4, .int (nI n)), (0, .ref 13), (1, .ref b), (2, .int (nI at_)), (3, .int (nI s))]) (hz_dec kX4_readDigits 32 rfl) (by decide) rfl ?_
        refine hz_iconst (pc := 54) (v := nI 0) (hz_dec kX4_readDigits 33 rfl) (by decide) ?_
        refine hz_istore (pc := 55) (i := 5) (lo2 := [(5, .int (nI 0)), (4, .int (nI n)), (0, .ref 13), (1, .ref b), (2, .int (nI at_)), (3, .int (nI s))]) (hz_dec kX4_readDigits 34 rfl) (by decide) rfl ?_
        refine hz_pick (pc := 57) [0, 2, 5, 1] rfl ?_
        refine c_rd_1 hO9 hO13 hz h19 (at_ := at_) (f := f) hn4 (fun g hg => ?_) n 0 _ rfl (by omega) (fun j hj hj2 => by rw [if_neg sgZ_0, cpy_in hj2])
        refine hz_aloadn (pc := 96) 0 (hz_dec kX4_readDigits 54 rfl) rfl ?_
        refine hz_get (pc := 97) (hz_dec kX4_readDigits 55 rfl) fo_X4_32 (hz_mne hO13 (by decide)) (by decide) (by omega) rfl ?_
        refine hz_aloadn (pc := 100) 0 (hz_dec kX4_readDigits 56 rfl) rfl ?_
        refine hz_get (pc := 101) (hz_dec kX4_readDigits 57 rfl) fo_X4_29 (hz_mne hO13 (by decide)) (by decide) (by omega) rfl ?_
        refine hz_iconst (pc := 104) (v := nI 0) (hz_dec kX4_readDigits 58 rfl) (by decide) ?_
        refine hz_iloadn (pc := 105) 1 (hz_dec kX4_readDigits 59 rfl) rfl ?_
        have hkA : ck_k (va_up M 19 (.inl (1, 358, .inl (g)))) z := hk.fr (frl.zup (os := [19]) rfl) rfl rfl
        have hsA : ck_s (va_up M 19 (.inl (1, 358, .inl (g)))) := ⟨⟨v10, (hz_mne h10 (by decide))⟩, ⟨u11, (hz_mne h11 (by decide))⟩, ⟨d12, (hz_mne h12 (by decide))⟩, ⟨p14, (hz_mne h14 (by decide))⟩, ⟨q15, (hz_mne h15 (by decide))⟩, ⟨q16, (hz_mne h16 (by decide))⟩, ⟨q17, (hz_mne h17 (by decide))⟩, ⟨q18, (hz_mne h18 (by decide))⟩, ⟨g, va_up_self _ _ _⟩⟩
        refine hz_callV (pc := 106) (a := 9) (As := [.ref 19, .int (nI 0), .int (nI s)]) (st := []) (hz_dec kX4_readDigits 60 rfl) co_X4_42 im_X8_digest se_X8_digest rfl (hz_mne hO9 (by decide)) (by decide) (by omega) (c_digF (at_ := 0) (n := s) hkA hsA (va_up_self _ _ _) (by decide) (by omega) (by decide) (by omega)) rfl (by decide) ⟨Nat.le_refl _, Nat.le_refl _⟩ (Nat.le_of_ble_eq_true rfl) rfl (fun r9 z9 M2 hp9 => ?_)
        obtain ⟨rfl, rfl, hf2, hs2, v2, hv2, hvc2⟩ := hp9
        have eH : sh_h g 0 s = sh_h (sgB f at_ n) 0 s := sh_h_c (fun i hi => by
          rw [Nat.zero_add, hg i (by omega) hi]
          unfold sgB
          by_cases c : sgZ n i = true
          · rw [if_pos c, if_pos c]; rfl
          · rw [if_neg c, if_neg c])
        rw [eH] at hvc2
        have hk2 : ck_k M2 z := hkA.fr hf2 rfl rfl
        obtain ⟨c10, c11, ⟨x12, c12⟩, ⟨x14, c14⟩, ⟨x15, c15⟩, ⟨x16, c16⟩, ⟨x17, c17⟩, ⟨x18, c18⟩, ⟨x19, c19⟩⟩ := id hs2
        obtain ⟨x11, c11⟩ := c11
        refine hz_iconst (pc := 109) (v := nI 0) (hz_dec kX4_readDigits 61 rfl) (by decide) ?_
        refine hz_istore (pc := 110) (i := 5) (lo2 := [(5, .int (nI 0)), (0, .ref 13), (3, .int (nI s))]) (hz_dec kX4_readDigits 62 rfl) (by decide) rfl ?_
        refine hz_iconst (pc := 112) (v := nI 0) (hz_dec kX4_readDigits 63 rfl) (by decide) ?_
        refine hz_istore (pc := 113) (i := 6) (lo2 := [(6, .int (nI 0)), (5, .int (nI 0)), (0, .ref 13), (3, .int (nI s))]) (hz_dec kX4_readDigits 64 rfl) (by decide) rfl ?_
        refine hz_pick (pc := 115) [0, 1, 2] rfl ?_
        refine hz_mem (hz_upid c15).symm ?_
        exact c_rd_2 hk2.1 hk2.2.1 hz c15 hv2 (h0 := sh_h (sgB f at_ n) 0 s 0) (hvc2 0 (by decide)) (fun q hq => ⟨rfl, rfl, ((frl.zup (os := [19]) rfl).tr (os3 := [10, 11, 15, 19]) hf2 rfl rfl).tr (frl.zup (os := [15]) rfl) rfl rfl, ⟨⟨v2, hz_mne hv2 (by decide)⟩, ⟨x11, hz_mne c11 (by decide)⟩, ⟨x12, hz_mne c12 (by decide)⟩, ⟨x14, hz_mne c14 (by decide)⟩, ⟨q, va_up_self _ _ _⟩, ⟨x16, hz_mne c16 (by decide)⟩, ⟨x17, hz_mne c17 (by decide)⟩, ⟨x18, hz_mne c18 (by decide)⟩, ⟨x19, hz_mne c19 (by decide)⟩⟩, q, va_up_self _ _ _, hq⟩) 6 0 x15 rfl (by omega) (fun j hj => absurd hj (by omega))
      · skip
        exact absurd (by assumption) (by omega)
