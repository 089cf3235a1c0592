/-! Judge.forPool -/
def plR (M : hz_M) (nb : Nat) (po : List po_P) : Prop := rwR M (nb + 10) 5728 16 (po.map Prod.fst) ∧ ∃ ff : Nat → Int64, M (nb + 13) = .inl (2, 16, .inr (.inl ff)) ∧ ∀ k, k < po.length → ff k = poV po k
theorem plR.fr {M M2 : hz_M} {nb : Nat} {po : List po_P} (h : plR M nb po) (e : ∀ q, nb + 10 ≤ q → q < nb + 14 → M2 q = M q) : plR M2 nb po := by
  obtain ⟨h1, ff, h2, h3⟩ := h
  exact ⟨h1.fr (fun q q1 q2 => e q (by omega) (by omega)), ff, (e _ (by omega) (by omega)).trans h2, h3⟩
theorem juS.fr {M M2 : hz_M} {z : Nat} (h : juS M z) (e : ∀ q, 20 ≤ q → ¬ q = 25 → q < 39 → M2 q = M q) (hk : ck_k M2 z) (hs : ck_s M2) {bf : Int32} {fe : Int64} (hj : juO M2 bf fe) : juS M2 z := by
  obtain ⟨-, ⟨s0, h34⟩, ⟨r0, h35⟩, ⟨g36, h36⟩, ⟨h0, h37⟩, ⟨i0, h38⟩, ⟨cs0, hc⟩, -, -, hw⟩ := h
  exact ⟨⟨_, _, hj⟩, ⟨_, (e 34 (by decide) (by decide) (by decide)).trans h34⟩, ⟨_, (e 35 (by decide) (by decide) (by decide)).trans h35⟩, ⟨_, (e 36 (by decide) (by decide) (by decide)).trans h36⟩, ⟨_, (e 37 (by decide) (by decide) (by decide)).trans h37⟩, ⟨_, (e 38 (by decide) (by decide) (by decide)).trans h38⟩, ⟨_, hc.fr (fun q q1 q2 => e q (by omega) (by omega) (by omega))⟩, hk, hs, hw.fs (fun q q1 q2 => e q (by omega) (by omega) (by omega))⟩
/-- the pool behind a transaction that came -/
def poN (po : List po_P) (cs : List co_C) (t : by_L) (h : Nat) (wi : Bool) : List po_P := if jPo po cs t h = 0 ∧ wi = true then po ++ [(t, (jSp cs t h).2)] else po
set_option maxHeartbeats 4000000 in
set_option maxRecDepth 100000 in
theorem c_fp_2 {κ : hz_C} {z : Nat} {M : hz_M} {nb : Nat} {nu up nx fu rc rf : Int32} (hN : M nb = ndO nb nu up nx fu rc rf) (hnb8 : 63 ≤ nb) (hnbz : nb + 34 ≤ z) {bl : List bk_B} {tip : Nat} {en : List en_E} (hT : trR M (nb + 21) bl tip en) {cs : List co_C} (hc : coR M (nb + 2) cs) (hht : coHt cs) {po : List po_P} (hp : plR M nb po) (hpw : poW po) (hJ : juS M z) {b n at_ : Nat} {f : Nat → Int32} {t : by_L} (hB : M b = .inl (1, n, .inl f)) (hb8 : 39 ≤ b) (hbz : b < z) (hbn : b < nb + 10 ∨ nb + 14 ≤ b) (hn : n < 2 ^ 24) (ht : isA f at_ t) (hat : at_ + t.length ≤ n) {wi : Bool} (hW : txW t) (hkn : ¬ poF po t < po.length) : hz_W κ xX3_forPool 4 0 0 (fun r z2 M2 => some (.int (nI (jPo po cs t (eH en tip + 1)))) = r ∧ z = z2 ∧ frS [(9, 20), (25, 26), (nb + 10, nb + 14)] M M2 ∧ juS M2 z ∧ plR M2 nb (poN po cs t (eH en tip + 1) wi)) 0 0 83 [(6, .ref (nb + 10)), (0, .ref 25), (1, .ref nb), (2, .ref b), (3, .int (nI at_)), (4, .int (nI (t.length))), (5, .int (nI ((if wi then 1 else 0))))] [] z M := by
  obtain ⟨hrw, ff, hff, hfX⟩ := id hp
  obtain ⟨hO, hle, hoff, f1, g1, hf1, hg1, hX⟩ := id hrw
  rw [List.length_map] at hO hle
  obtain ⟨⟨bf, fe, hj⟩, -, -, -, -, -, -, hk, hs, hw⟩ := id hJ
  obtain ⟨-, -, hz63⟩ := id hk
  have hwi : (if wi = true then 1 else 0) < 2 := by split <;> omega
  obtain ⟨w1, w2, w3, w4, w5⟩ := txW_sz hW
  have tl := txW_len hW
  have hTL := hT
  obtain ⟨hT0, -, -, ⟨fb, fht, ftm, fbi, hfb, hfht, hftm, hfbi, hEX⟩, -, -, -, -, hl113, hlen, hen, hst, hwf, htip⟩ := id hT
  have hte := hwf.ht (k := tip) (by omega)
  have c1 : ¬ (¬ txS t = t.length ∨ t.length = 0) := fun q => q.elim (fun q => q hW.1) (fun q => hW.2 q)
  refine hz_aloadn (pc := 83) 3 (hz_dec kX3_forPool 41 rfl) rfl ?_
  refine hz_iloadn (pc := 84) 4 (hz_dec kX3_forPool 42 rfl) rfl ?_
  refine hz_xS (pc := 85) (As := [.ref b, .int (nI at_)]) (st := []) (hz_dec kX3_forPool 43 rfl) co_X3_111 sc_X0_one (c_one hB (by omega) hbz (by omega) (by omega)) rfl (by decide) ⟨Nat.le_refl _, Nat.le_refl _⟩ (Nat.le_of_ble_eq_true rfl) rfl ?_
  refine hz_eqi (pc := 88) (show _ = nI (txI t) by rw [show at_ = at_ + 0 from rfl, ht 0 (by omega)]; rfl) ?_
  refine hz_z_ne (pc := 88) (tgt := 93) (hz_dec kX3_forPool 44 rfl) (by decide) (by omega) (fun h1 => ?_) (fun h1 => ?_)
  · skip
    refine hz_aloadn (pc := 93) 1 (hz_dec kX3_forPool 47 rfl) rfl ?_
    refine hz_get (pc := 94) (hz_dec kX3_forPool 48 rfl) fo_X3_36 hj (by omega) (by omega) rfl ?_
    refine hz_aloadn (pc := 97) 3 (hz_dec kX3_forPool 49 rfl) rfl ?_
    refine hz_iloadn (pc := 98) 4 (hz_dec kX3_forPool 50 rfl) rfl ?_
    refine hz_iload (pc := 99) 5 (hz_dec kX3_forPool 51 rfl) rfl ?_
    refine hz_callV (pc := 101) (a := 9) (As := [.ref b, .int (nI at_), .int (nI (t.length))]) (st := []) (hz_dec kX3_forPool 52 rfl) co_X3_48 im_X8_digest se_X8_digest rfl hk.1 (by omega) (by omega) (c_digF (n := t.length) hk hs hB (by omega) hbz (by omega) (by omega)) rfl (by decide) ⟨Nat.le_refl _, Nat.le_refl _⟩ (Nat.le_of_ble_eq_true rfl) rfl (fun r9 z9 M1 hp9 => ?_)
    obtain ⟨rfl, rfl, hf1a, hs1, v1, hv1, hvc1⟩ := hp9
    rw [shS_of ht rfl] at hvc1
    have hk1 : ck_k M1 z := hk.fr hf1a rfl rfl
    have hF1 : frS [(9, 20)] M M1 := hf1a.S0 rfl
    have hj1 : juO M1 bf fe := (hF1.at1 (by omega)).trans hj
    have hc1 : coR M1 (nb + 2) cs := hc.fr (fun q q1 q2 => hF1.at1 (by omega))
    have hB1 : M1 b = .inl (1, n, .inl f) := (hF1.at1 (by omega)).trans hB
    have hN1 := (hF1.at1 (q := nb) (by omega)).trans hN
    have hT01 := (hF1.at1 (q := nb + 21) (by omega)).trans hT0
    have hfht1 := (hF1.at1 (q := nb + 21 + 6) (by omega)).trans hfht
    refine hz_aloadn (pc := 104) 2 (hz_dec kX3_forPool 53 rfl) rfl ?_
    refine hz_get (pc := 105) (hz_dec kX3_forPool 54 rfl) fo_X3_84 hN1 (by omega) (by omega) rfl ?_
    refine hz_get (pc := 108) (hz_dec kX3_forPool 55 rfl) fo_X3_125 hT01 (by omega) (by omega) rfl ?_
    refine hz_aloadn (pc := 111) 2 (hz_dec kX3_forPool 56 rfl) rfl ?_
    refine hz_get (pc := 112) (hz_dec kX3_forPool 57 rfl) fo_X3_84 hN1 (by omega) (by omega) rfl ?_
    refine hz_get (pc := 115) (hz_dec kX3_forPool 58 rfl) fo_X3_226 hT01 (by omega) (by omega) rfl ?_
    refine hz_iald (pc := 118) (j := tip) (hz_dec kX3_forPool 59 rfl) hfht1 (by omega) (by omega) rfl (by omega) (by omega) ?_
    refine hz_eqi (pc := 119) (hEX (tip) (by omega)).2.1 ?_
    refine hz_iconst (pc := 119) (v := nI 1) (hz_dec kX3_forPool 60 rfl) (by decide) ?_
    refine hz_addN (pc := 120) (hz_dec kX3_forPool 61 rfl) ?_
    refine hz_istore (pc := 121) (i := 7) (lo2 := [(7, .int (nI ((eH en (tip)) + 1))), (6, .ref (nb + 10)), (0, .ref 25), (1, .ref nb), (2, .ref b), (3, .int (nI at_)), (4, .int (nI (t.length))), (5, .int (nI ((if wi then 1 else 0))))]) (hz_dec kX3_forPool 62 rfl) (by decide) rfl ?_
    refine hz_aloadn (pc := 123) 2 (hz_dec kX3_forPool 63 rfl) rfl ?_
    refine hz_aloadn (pc := 124) 3 (hz_dec kX3_forPool 64 rfl) rfl ?_
    refine hz_get (pc := 125) (hz_dec kX3_forPool 65 rfl) fo_X3_229 hN1 (by omega) (by omega) rfl ?_
    refine hz_aloadn (pc := 128) 4 (hz_dec kX3_forPool 66 rfl) rfl ?_
    refine hz_iloadn (pc := 129) 5 (hz_dec kX3_forPool 67 rfl) rfl ?_
    refine hz_iload (pc := 130) 6 (hz_dec kX3_forPool 68 rfl) rfl ?_
    refine hz_aloadn (pc := 132) 2 (hz_dec kX3_forPool 69 rfl) rfl ?_
    refine hz_get (pc := 133) (hz_dec kX3_forPool 70 rfl) fo_X3_36 hj1 (by omega) (by omega) rfl ?_
    refine hz_iconst (pc := 136) (v := nI 0) (hz_dec kX3_forPool 71 rfl) (by decide) ?_
    refine hz_xV (pc := 137) (a := 9) (As := [.int (nI 0)]) (st := [.int (nI (t.length)), .int (nI at_), .ref b, .ref (nb + 2), .ref 25]) (hz_dec kX3_forPool 72 rfl) co_X3_230 im_X8_limbOf se_X8_limbOf rfl hk1.1 (by omega) (by omega) (c_limbOf (k := 0) hk1.1 hv1 ⟨by decide, by omega⟩ ⟨by decide, by omega⟩ (by decide)) rfl (by decide) ⟨Nat.le_refl _, Nat.le_refl _⟩ (Nat.le_of_ble_eq_true rfl) rfl ?_
    refine hz_eql (pc := 140) (show _ = idS t by rw [sh_lim_c (by decide) hvc1]; rfl) ?_
    refine hz_iload (pc := 140) 0 (hz_dec kX3_forPool 73 rfl) rfl ?_
    refine hz_callV (pc := 142) (a := 25) (As := [.ref (nb + 2), .ref b, .int (nI at_), .int (nI (t.length)), .long (idS t), .int (nI ((eH en (tip)) + 1))]) (st := []) (hz_dec kX3_forPool 74 rfl) co_X3_142 im_X3_ofTransaction se_X3_ofTransaction rfl hj1 (by omega) (by omega) (c_oft hk1 hc1 (by omega) (by omega) hB1 (by omega) hbz (by omega) ht (by omega) hW (h_ := eH en tip + 1) (by omega) hht.l rfl hs1 hj1) rfl (by decide) ⟨Nat.le_refl _, Nat.le_refl _⟩ (Nat.le_of_ble_eq_true rfl) rfl (fun r9 z9 M2 hp9 => ?_)
    obtain ⟨rfl, rfl, hf2, hk2, hs2, fe2, hj2, hfee⟩ := hp9
    have hF2 : frS [(9, 20), (25, 26)] M M2 := (hF1.mono (fun q hq => by simp only [outS, and_true] at hq ⊢; omega)).tr hf2
    have hG2 : frS [(9, 20), (25, 26), (nb + 10, nb + 14)] M M2 := hF2.mono (fun q hq => by simp only [outS, and_true] at hq ⊢; omega)
    have hJ2 : juS M2 z := hJ.fr (fun q q1 q2 q3 => hF2.at2 (by omega)) hk2 hs2 hj2
    have hp2 : plR M2 nb po := hp.fr (fun q q1 q2 => hF2.at2 (by omega))
    have hv9 : (jSp cs t (eH en tip + 1)).1 < 100 := jSp_lt _ _ _
    have hB2 : M2 b = .inl (1, n, .inl f) := (hF2.at2 (by omega)).trans hB
    obtain ⟨hrw2, ff2, hff2, hfX2⟩ := id hp2
    obtain ⟨hO2, -⟩ := id hrw2
    rw [List.length_map] at hO2
    have hN2 := (hF2.at2 (q := nb) (by omega)).trans hN
    refine hz_istore (pc := 145) (i := 8) (lo2 := [(8, .int (nI ((jSp cs t (eH en tip + 1)).1))), (7, .int (nI ((eH en (tip)) + 1))), (6, .ref (nb + 10)), (0, .ref 25), (1, .ref nb), (2, .ref b), (3, .int (nI at_)), (4, .int (nI (t.length))), (5, .int (nI ((if wi then 1 else 0))))]) (hz_dec kX3_forPool 75 rfl) (by decide) rfl ?_
    refine hz_iload (pc := 147) 0 (hz_dec kX3_forPool 76 rfl) rfl ?_
    refine hz_z_eq (pc := 149) (tgt := 155) (hz_dec kX3_forPool 77 rfl) (by decide) (by omega) (fun h2 => ?_) (fun h2 => ?_)
    · skip
      refine hz_aload (pc := 155) 2 (hz_dec kX3_forPool 80 rfl) rfl ?_
      refine hz_aloadn (pc := 157) 5 (hz_dec kX3_forPool 81 rfl) rfl ?_
      refine hz_iloadn (pc := 158) 6 (hz_dec kX3_forPool 82 rfl) rfl ?_
      refine hz_xS (pc := 159) (As := [.ref (nb + 10), .ref b, .int (nI at_)]) (st := []) (hz_dec kX3_forPool 83 rfl) co_X3_234 sc_X3_clashes (c_cla hrw2 hpw (by omega) (by omega) hB2 (by omega) hbz hn ht hat hW) rfl (by decide) ⟨Nat.le_refl _, Nat.le_refl _⟩ (Nat.le_of_ble_eq_true rfl) rfl ?_
      refine hz_if_eq (pc := 162) (tgt := 168) (hz_dec kX3_forPool 84 rfl) (by decide) (fun h3 => ?_) (fun h3 => ?_)
      · skip
        refine hz_aload (pc := 168) 2 (hz_dec kX3_forPool 87 rfl) rfl ?_
        refine hz_get (pc := 170) (hz_dec kX3_forPool 88 rfl) fo_X3_212 hO2 (by omega) (by omega) rfl ?_
        refine hz_bipush (pc := 173) (v := nI 16) (hz_dec kX3_forPool 89 rfl) (by decide) ?_
        refine hz_n_lt (pc := 175) (tgt := 181) (hz_dec kX3_forPool 90 rfl) (by decide) (by omega) (by omega) (fun h4 => ?_) (fun h4 => ?_)
        · skip
          have e9 : jPo po cs t (eH en tip + 1) = 0 := by unfold jPo; rw [if_neg c1, if_neg hkn, if_neg (show ¬ txI t = 0 by omega), if_neg (fun q => q (by omega)), if_neg (by rw [hz_b0 h3]; decide), if_neg (by omega)]
          refine hz_iload (pc := 181) 8 (hz_dec kX3_forPool 93 rfl) rfl ?_
          refine hz_z_eq (pc := 183) (tgt := 210) (hz_dec kX3_forPool 94 rfl) (by decide) (by omega) (fun h5 => ?_) (fun h5 => ?_)
          · skip
            have e8 : poN po cs t (eH en tip + 1) wi = po := by unfold poN; exact if_neg (fun q => by have q2 := q.2; rw [q2] at h5; exact absurd h5 (by decide))
            refine hz_iconst (pc := 210) (v := nI 0) (hz_dec kX3_forPool 108 rfl) (by decide) ?_
            refine hz_iret (pc := 211) (hz_dec kX3_forPool 109 rfl) rfl ⟨by rw [e9], rfl, hG2, hJ2, by rw [e8]; exact hp2⟩
          · skip
            have hwt : wi = true := by cases wi; exact absurd h5 (by decide); rfl
            have e8 : poN po cs t (eH en tip + 1) wi = po ++ [(t, (jSp cs t (eH en tip + 1)).2)] := by unfold poN; rw [e9]; exact if_pos ⟨rfl, hwt⟩
            have hfee2 := hfee (by omega)
            refine hz_aloadn (pc := 186) 4 (hz_dec kX3_forPool 95 rfl) rfl ?_
            refine hz_get (pc := 187) (hz_dec kX3_forPool 96 rfl) fo_X3_238 hN2 (by omega) (by omega) rfl ?_
            refine hz_aload (pc := 190) 2 (hz_dec kX3_forPool 97 rfl) rfl ?_
            refine hz_get (pc := 192) (hz_dec kX3_forPool 98 rfl) fo_X3_212 hO2 (by omega) (by omega) rfl ?_
            refine hz_aloadn (pc := 195) 3 (hz_dec kX3_forPool 99 rfl) rfl ?_
            refine hz_get (pc := 196) (hz_dec kX3_forPool 100 rfl) fo_X3_146 hj2 (by omega) (by omega) rfl ?_
            refine hz_last (pc := 199) (j := po.length) (hz_dec kX3_forPool 101 rfl) hff2 (by omega) (by omega) rfl (by omega) (by omega) ?_
            refine hz_aload (pc := 200) 2 (hz_dec kX3_forPool 102 rfl) rfl ?_
            refine hz_aloadn (pc := 202) 5 (hz_dec kX3_forPool 103 rfl) rfl ?_
            refine hz_iloadn (pc := 203) 6 (hz_dec kX3_forPool 104 rfl) rfl ?_
            refine hz_iload (pc := 204) 7 (hz_dec kX3_forPool 105 rfl) rfl ?_
            have hrw3 : rwR (va_up M2 (nb + 13) (.inl (2, 16, .inr (.inl (vp_updL ff2 (po.length) (fe2)))))) (nb + 10) 5728 16 (po.map Prod.fst) := hrw2.fr (fun q q1 q2 => va_up_ne _ _ (by omega))
            have hpo := poW_off hpw po.length (Nat.le_refl _)
            refine hz_callV (pc := 206) (a := nb + 10) (As := [.ref b, .int (nI at_), .int (nI (t.length))]) (st := []) (hz_dec kX3_forPool 106 rfl) co_X3_241 im_X7_add se_X7_add rfl (hz_mne hO2 (by omega)) (by omega) (by omega) (c_rwAdd hrw3 (by omega) (by omega) (by decide) (by decide) (hz_mne hB2 (by omega)) (by omega) hbz (by omega) ht hat (by omega) (by rw [List.length_map]; omega) (by rw [List.length_map]; omega)) rfl (by decide) ⟨Nat.le_refl _, Nat.le_refl _⟩ (Nat.le_of_ble_eq_true rfl) rfl (fun r9 z9 M4 hp9 => ?_)
            obtain ⟨rfl, rfl, hf4, hr4⟩ := hp9
            refine hz_pop (pc := 209) (hz_dec kX3_forPool 107 rfl) rfl ?_
            refine hz_iconst (pc := 210) (v := nI 0) (hz_dec kX3_forPool 108 rfl) (by decide) ?_
            refine hz_iret (pc := 211) (hz_dec kX3_forPool 109 rfl) rfl ⟨by rw [e9], rfl, (hG2.upr (by simp only [outS, and_true]; omega)).tr (hf4.mono (fun q hq => by simp only [outS, and_true] at hq ⊢; omega)), hJ2.fr (fun q q1 q2 q3 => (hf4.at1 (by omega)).trans (va_up_ne _ _ (by omega))) ((hk2.up (by omega)).fs (hf4.at1 (by omega)) (hf4.at1 (by omega))) ((hs2.up (by omega)).fs (fun q q1 q2 => hf4.at1 (by omega))) ((hf4.at1 (by omega)).trans (hz_mne hj2 (by omega))), ?_⟩
            rw [e8]
            refine ⟨by rw [List.map_append]; exact hr4, _, (hf4.at1 (by omega)).trans (va_up_self _ _ _), fun k hk9 => ?_⟩
            rw [List.length_append] at hk9
            simp only [vp_updL]
            split
            · next e => rw [e, poL_last.2, hfee2]
            · next e =>
              have hk8 : k < po.length := by have q : k < po.length + 1 := hk9; omega
              rw [(poL_app hk8).2]
              exact hfX2 k hk8
        · skip
          have e9 : jPo po cs t (eH en tip + 1) = 15 := by unfold jPo; rw [if_neg c1, if_neg hkn, if_neg (show ¬ txI t = 0 by omega), if_neg (fun q => q (by omega)), if_neg (by rw [hz_b0 h3]; decide), if_pos (by omega)]
          have e8 : poN po cs t (eH en tip + 1) wi = po := by unfold poN; rw [e9]; exact if_neg (fun q => absurd q.1 (by omega))
          refine hz_bipush (pc := 178) (v := nI 15) (hz_dec kX3_forPool 91 rfl) (by decide) ?_
          refine hz_iret (pc := 180) (hz_dec kX3_forPool 92 rfl) rfl ⟨by rw [e9], rfl, hG2, hJ2, by rw [e8]; exact hp2⟩
      · skip
        have e9 : jPo po cs t (eH en tip + 1) = 16 := by unfold jPo; rw [if_neg c1, if_neg hkn, if_neg (show ¬ txI t = 0 by omega), if_neg (fun q => q (by omega)), if_pos (hz_b1 h3)]
        have e8 : poN po cs t (eH en tip + 1) wi = po := by unfold poN; rw [e9]; exact if_neg (fun q => absurd q.1 (by omega))
        refine hz_bipush (pc := 165) (v := nI 16) (hz_dec kX3_forPool 85 rfl) (by decide) ?_
        refine hz_iret (pc := 167) (hz_dec kX3_forPool 86 rfl) rfl ⟨by rw [e9], rfl, hG2, hJ2, by rw [e8]; exact hp2⟩
    · skip
      have e9 : jPo po cs t (eH en tip + 1) = (jSp cs t (eH en tip + 1)).1 := by unfold jPo; rw [if_neg c1, if_neg hkn, if_neg (show ¬ txI t = 0 by omega), if_pos (by omega)]
      have e8 : poN po cs t (eH en tip + 1) wi = po := by unfold poN; rw [e9]; exact if_neg (fun q => absurd q.1 (by omega))
      refine hz_iload (pc := 152) 0 (hz_dec kX3_forPool 78 rfl) rfl ?_
      refine hz_iret (pc := 154) (hz_dec kX3_forPool 79 rfl) rfl ⟨by rw [e9], rfl, hG2, hJ2, by rw [e8]; exact hp2⟩
  · skip
    have e9 : jPo po cs t (eH en tip + 1) = 5 := by unfold jPo; rw [if_neg c1, if_neg hkn, if_pos h1]
    have e8 : poN po cs t (eH en tip + 1) wi = po := by unfold poN; rw [e9]; exact if_neg (fun q => absurd q.1 (by omega))
    refine hz_iconst (pc := 91) (v := nI 5) (hz_dec kX3_forPool 45 rfl) (by decide) ?_
    refine hz_iret (pc := 92) (hz_dec kX3_forPool 46 rfl) rfl ⟨by rw [e9], rfl, frS.rf, hJ, by rw [e8]; exact hp⟩
set_option maxHeartbeats 4000000 in
set_option maxRecDepth 100000 in
theorem c_fp_1 {κ : hz_C} {z : Nat} {M : hz_M} {nb : Nat} {nu up nx fu rc rf : Int32} (hN : M nb = ndO nb nu up nx fu rc rf) (hnb8 : 63 ≤ nb) (hnbz : nb + 34 ≤ z) {bl : List bk_B} {tip : Nat} {en : List en_E} (hT : trR M (nb + 21) bl tip en) {cs : List co_C} (hc : coR M (nb + 2) cs) (hht : coHt cs) {po : List po_P} (hp : plR M nb po) (hpw : poW po) (hJ : juS M z) {b n at_ : Nat} {f : Nat → Int32} {t : by_L} (hB : M b = .inl (1, n, .inl f)) (hb8 : 39 ≤ b) (hbz : b < z) (hbn : b < nb + 10 ∨ nb + 14 ≤ b) (hn : n < 2 ^ 24) (ht : isA f at_ t) (hat : at_ + t.length ≤ n) {wi : Bool} (hW : txW t) : ∀ k i, k = po.length - i → i ≤ po.length → (∀ j, j < i → smS (poL po j) t = false) → hz_W κ xX3_forPool 4 0 0 (fun r z2 M2 => some (.int (nI (jPo po cs t (eH en tip + 1)))) = r ∧ z = z2 ∧ frS [(9, 20), (25, 26), (nb + 10, nb + 14)] M M2 ∧ juS M2 z ∧ plR M2 nb (poN po cs t (eH en tip + 1) wi)) 0 0 30 [(7, .int (nI i)), (6, .ref (nb + 10)), (0, .ref 25), (1, .ref nb), (2, .ref b), (3, .int (nI at_)), (4, .int (nI (t.length))), (5, .int (nI ((if wi then 1 else 0))))] [] z M := by
  intro k
  induction k using Nat.strongRecOn with
  | ind k ih =>
  intro i hk_ hi hno
  obtain ⟨hrw, ff, hff, hfX⟩ := id hp
  obtain ⟨hO, hle, hoff, f1, g1, hf1, hg1, hX⟩ := id hrw
  rw [List.length_map] at hO hle
  obtain ⟨⟨bf, fe, hj⟩, -, -, -, -, -, -, hk, hs, hw⟩ := id hJ
  obtain ⟨-, -, hz63⟩ := id hk
  have hwi : (if wi = true then 1 else 0) < 2 := by split <;> omega
  have tl := txW_len hW
  have c1 : ¬ (¬ txS t = t.length ∨ t.length = 0) := fun q => q.elim (fun q => q hW.1) (fun q => hW.2 q)
  refine hz_iload (pc := 30) 0 (hz_dec kX3_forPool 17 rfl) rfl ?_
  refine hz_aload (pc := 32) 1 (hz_dec kX3_forPool 18 rfl) rfl ?_
  refine hz_get (pc := 34) (hz_dec kX3_forPool 19 rfl) fo_X3_212 hO (by omega) (by omega) rfl ?_
  refine hz_n_ge (pc := 37) (tgt := 83) (hz_dec kX3_forPool 20 rfl) (by decide) (by omega) (by omega) (fun h1 => ?_) (fun h1 => ?_)
  · skip
    have e : i = po.length := by omega
    refine hz_pick (pc := 83) [1, 2, 3, 4, 5, 6, 7] rfl ?_
    exact c_fp_2 hN hnb8 hnbz hT hc hht hp hpw hJ hB hb8 hbz hbn hn ht hat hW (by unfold poF; rw [fsI_no (p := fun k => smS (poL po k) t) _ (fun j hj => hno j (by omega))]; omega)
  · skip
    have hPA : isA f1 (offL (po.map Prod.fst) i) (poL po i) := by have q := hX.2 i (by rw [List.length_map]; exact h1); rw [rowL_po] at q; exact q
    have plen := txW_len (hpw.2 i h1).1
    have hom := poW_off hpw i (by omega)
    refine hz_aload (pc := 40) 1 (hz_dec kX3_forPool 21 rfl) rfl ?_
    refine hz_iload (pc := 42) 0 (hz_dec kX3_forPool 22 rfl) rfl ?_
    refine hz_xV (pc := 44) (a := nb + 10) (As := [.int (nI i)]) (st := []) (hz_dec kX3_forPool 23 rfl) co_X3_217 im_X7_lengthOf se_X7_lengthOf rfl hO (by omega) (by omega) (c_lenOf hrw (by omega) (by omega) (by decide) (by decide) (by rw [List.length_map]; exact h1)) rfl (by decide) ⟨Nat.le_refl _, Nat.le_refl _⟩ (Nat.le_of_ble_eq_true rfl) rfl ?_
    refine hz_eqi (pc := 47) (show _ = nI (poL po i).length by rw [rowL_po]) ?_
    refine hz_iload (pc := 47) 6 (hz_dec kX3_forPool 24 rfl) rfl ?_
    refine hz_n_ne (pc := 49) (tgt := 77) (hz_dec kX3_forPool 25 rfl) (by decide) (by omega) (by omega) (fun h2 => ?_) (fun h2 => ?_)
    · skip
      refine hz_incN (pc := 77) (i := 7) (lo2 := [(7, .int (nI (i + 1))), (6, .ref (nb + 10)), (0, .ref 25), (1, .ref nb), (2, .ref b), (3, .int (nI at_)), (4, .int (nI (t.length))), (5, .int (nI ((if wi then 1 else 0))))]) 0 (hz_dec kX3_forPool 39 rfl) rfl (by decide) rfl ?_
      refine hz_goto (pc := 80) (tgt := 30) (hz_dec kX3_forPool 40 rfl) (by decide) ?_
      refine hz_pick (pc := 30) [0, 1, 2, 3, 4, 5, 6, 7] rfl ?_
      refine ih (po.length - (i + 1)) (by omega) (i + 1) rfl (by omega) (fun j hj => ?_)
      rcases (show j = i ∨ j < i by omega) with e | c
      · rw [e]; exact decide_eq_false (fun q => h2 (by rw [q]))
      · exact hno j c
    · skip
      refine hz_aload (pc := 52) 1 (hz_dec kX3_forPool 26 rfl) rfl ?_
      refine hz_get (pc := 54) (hz_dec kX3_forPool 27 rfl) fo_X3_220 hO (by omega) (by omega) rfl ?_
      refine hz_aload (pc := 57) 1 (hz_dec kX3_forPool 28 rfl) rfl ?_
      refine hz_get (pc := 59) (hz_dec kX3_forPool 29 rfl) fo_X3_223 hO (by omega) (by omega) rfl ?_
      refine hz_iload (pc := 62) 0 (hz_dec kX3_forPool 30 rfl) rfl ?_
      refine hz_iald (pc := 64) (j := i) (hz_dec kX3_forPool 31 rfl) hg1 (by omega) (by omega) rfl (by omega) (by omega) ?_
      refine hz_eqi (pc := 65) (hX.1 (i) (by rw [List.length_map]; omega)) ?_
      refine hz_aloadn (pc := 65) 4 (hz_dec kX3_forPool 32 rfl) rfl ?_
      refine hz_iloadn (pc := 66) 5 (hz_dec kX3_forPool 33 rfl) rfl ?_
      refine hz_iload (pc := 67) 6 (hz_dec kX3_forPool 34 rfl) rfl ?_
      refine hz_xS (pc := 69) (As := [.ref (nb + 10 + 1), .int (nI (offL (po.map Prod.fst) (i))), .ref b, .int (nI at_), .int (nI (t.length))]) (st := []) (hz_dec kX3_forPool 35 rfl) co_X3_107 sc_X0_same (c_same hf1 (by omega) (by omega) (by decide) hB (by omega) hbz (by omega) (by omega) (by omega)) rfl (by decide) ⟨Nat.le_refl _, Nat.le_refl _⟩ (Nat.le_of_ble_eq_true rfl) rfl ?_
      refine hz_eqi (pc := 72) (show _ = hz_b (smS (poL po i) t) by rw [smB_sm, smS_of hPA ht h2 rfl]) ?_
      refine hz_if_eq (pc := 72) (tgt := 77) (hz_dec kX3_forPool 36 rfl) (by decide) (fun h3 => ?_) (fun h3 => ?_)
      · skip
        refine hz_incN (pc := 77) (i := 7) (lo2 := [(7, .int (nI (i + 1))), (6, .ref (nb + 10)), (0, .ref 25), (1, .ref nb), (2, .ref b), (3, .int (nI at_)), (4, .int (nI (t.length))), (5, .int (nI ((if wi then 1 else 0))))]) 0 (hz_dec kX3_forPool 39 rfl) rfl (by decide) rfl ?_
        refine hz_goto (pc := 80) (tgt := 30) (hz_dec kX3_forPool 40 rfl) (by decide) ?_
        refine hz_pick (pc := 30) [0, 1, 2, 3, 4, 5, 6, 7] rfl ?_
        refine ih (po.length - (i + 1)) (by omega) (i + 1) rfl (by omega) (fun j hj => ?_)
        rcases (show j = i ∨ j < i by omega) with e | c
        · rw [e]; exact hz_b0 h3
        · exact hno j c
      · skip
        have e9 : jPo po cs t (eH en tip + 1) = 2 := by unfold jPo; rw [if_neg c1, if_pos (show poF po t < po.length by unfold poF; rw [fsI_at (p := fun k => smS (poL po k) t) (i := i) (hz_b1 h3) hno _ h1]; exact h1)]
        have e8 : poN po cs t (eH en tip + 1) wi = po := by unfold poN; rw [e9]; exact if_neg (fun q => absurd q.1 (by omega))
        refine hz_iconst (pc := 75) (v := nI 2) (hz_dec kX3_forPool 37 rfl) (by decide) ?_
        exact hz_iret (pc := 76) (hz_dec kX3_forPool 38 rfl) rfl ⟨by rw [e9], rfl, frS.rf, hJ, by rw [e8]; exact hp⟩
set_option maxHeartbeats 4000000 in
set_option maxRecDepth 100000 in
theorem c_forPool {κ : hz_C} {z : Nat} {M : hz_M} {nb : Nat} {nu up nx fu rc rf : Int32} (hN : M nb = ndO nb nu up nx fu rc rf) (hnb8 : 63 ≤ nb) (hnbz : nb + 34 ≤ z) {bl : List bk_B} {tip : Nat} {en : List en_E} (hT : trR M (nb + 21) bl tip en) {cs : List co_C} (hc : coR M (nb + 2) cs) (hht : coHt cs) {po : List po_P} (hp : plR M nb po) (hpw : poW po) (hJ : juS M z) {b n at_ : Nat} {f : Nat → Int32} {t : by_L} (hB : M b = .inl (1, n, .inl f)) (hb8 : 39 ≤ b) (hbz : b < z) (hbn : b < nb + 10 ∨ nb + 14 ≤ b) (hn : n < 2 ^ 24) (ht : isA f at_ t) (hat : at_ + t.length ≤ n) {wi : Bool} : hz_Mt κ xX3_forPool 4 0 0 [.ref 25, .ref nb, .ref b, .int (nI at_), .int (nI t.length), .int (nI (if wi then 1 else 0))] z M (fun r z2 M2 => some (.int (nI (jPo po cs t (eH en tip + 1)))) = r ∧ z = z2 ∧ frS [(9, 20), (25, 26), (nb + 10, nb + 14)] M M2 ∧ juS M2 z ∧ plR M2 nb (poN po cs t (eH en tip + 1) wi)) := by
  refine hz_ent (lo := [(0, .ref 25), (1, .ref nb), (2, .ref b), (3, .int (nI at_)), (4, .int (nI (t.length))), (5, .int (nI ((if wi then 1 else 0))))]) (by decide) (Nat.le_of_ble_eq_true rfl) rfl ?_
  obtain ⟨hrw, ff, hff, hfX⟩ := id hp
  obtain ⟨hO, hle, hoff, f1, g1, hf1, hg1, hX⟩ := id hrw
  rw [List.length_map] at hO hle
  obtain ⟨⟨bf, fe, hj⟩, -, -, -, -, -, -, hk, hs, hw⟩ := id hJ
  obtain ⟨-, -, hz63⟩ := id hk
  have hwi : (if wi = true then 1 else 0) < 2 := by split <;> omega
  refine hz_aloadn (pc := 0) 1 (hz_dec kX3_forPool 0 rfl) rfl ?_
  refine hz_get (pc := 1) (hz_dec kX3_forPool 1 rfl) fo_X3_205 hN (by omega) (by omega) rfl ?_
  refine hz_astore (pc := 4) (i := 6) (lo2 := [(6, .ref (nb + 10)), (0, .ref 25), (1, .ref nb), (2, .ref b), (3, .int (nI at_)), (4, .int (nI (t.length))), (5, .int (nI ((if wi then 1 else 0))))]) (hz_dec kX3_forPool 2 rfl) (by decide) rfl ?_
  refine hz_iload (pc := 6) 5 (hz_dec kX3_forPool 3 rfl) rfl ?_
  refine hz_z_eq (pc := 8) (tgt := 25) (hz_dec kX3_forPool 4 rfl) (by decide) (by omega) (fun h1 => ?_) (fun h1 => ?_)
  · skip
    have e9 : jPo po cs t (eH en tip + 1) = 1 := by unfold jPo; rw [if_pos (Or.inr h1)]
    have e8 : poN po cs t (eH en tip + 1) wi = po := by unfold poN; rw [e9]; exact if_neg (fun q => absurd q.1 (by omega))
    refine hz_iconst (pc := 25) (v := nI 1) (hz_dec kX3_forPool 13 rfl) (by decide) ?_
    exact hz_iret (pc := 26) (hz_dec kX3_forPool 14 rfl) rfl ⟨by rw [e9], rfl, frS.rf, hJ, by rw [e8]; exact hp⟩
  · skip
    refine hz_aloadn (pc := 11) 3 (hz_dec kX3_forPool 5 rfl) rfl ?_
    refine hz_iloadn (pc := 12) 4 (hz_dec kX3_forPool 6 rfl) rfl ?_
    refine hz_iloadn (pc := 13) 4 (hz_dec kX3_forPool 7 rfl) rfl ?_
    refine hz_iload (pc := 14) 5 (hz_dec kX3_forPool 8 rfl) rfl ?_
    refine hz_addN (pc := 16) (hz_dec kX3_forPool 9 rfl) ?_
    refine hz_xS (pc := 17) (As := [.ref b, .int (nI at_), .int (nI (at_ + (t.length)))]) (st := []) (hz_dec kX3_forPool 10 rfl) co_X3_209 sc_X0_transactionLength (c_txl hB (by omega) hbz (by omega) (by omega) (by omega)) rfl (by decide) ⟨Nat.le_refl _, Nat.le_refl _⟩ (Nat.le_of_ble_eq_true rfl) rfl ?_
    refine hz_eqi (pc := 20) (show _ = nI (txS t) by rw [txS_of ht rfl rfl]) ?_
    have hts : txS t < 2 ^ 31 := by unfold txS; have q := tx_len_e (lf t) 0 t.length; omega
    refine hz_iload (pc := 20) 5 (hz_dec kX3_forPool 11 rfl) rfl ?_
    refine hz_n_eq (pc := 22) (tgt := 27) (hz_dec kX3_forPool 12 rfl) (by decide) (by omega) (by omega) (fun h2 => ?_) (fun h2 => ?_)
    · skip
      refine hz_iconst (pc := 27) (v := nI 0) (hz_dec kX3_forPool 15 rfl) (by decide) ?_
      refine hz_istore (pc := 28) (i := 7) (lo2 := [(7, .int (nI 0)), (6, .ref (nb + 10)), (0, .ref 25), (1, .ref nb), (2, .ref b), (3, .int (nI at_)), (4, .int (nI (t.length))), (5, .int (nI ((if wi then 1 else 0))))]) (hz_dec kX3_forPool 16 rfl) (by decide) rfl ?_
      refine hz_pick (pc := 30) [0, 1, 2, 3, 4, 5, 6, 7] rfl ?_
      exact c_fp_1 hN hnb8 hnbz hT hc hht hp hpw hJ hB hb8 hbz hbn hn ht hat ⟨h2, by omega⟩ po.length 0 rfl (by omega) (fun j hj => absurd hj (by omega))
    · skip
      have e9 : jPo po cs t (eH en tip + 1) = 1 := by unfold jPo; rw [if_pos (Or.inl h2)]
      have e8 : poN po cs t (eH en tip + 1) wi = po := by unfold poN; rw [e9]; exact if_neg (fun q => absurd q.1 (by omega))
      refine hz_iconst (pc := 25) (v := nI 1) (hz_dec kX3_forPool 13 rfl) (by decide) ?_
      exact hz_iret (pc := 26) (hz_dec kX3_forPool 14 rfl) rfl ⟨by rw [e9], rfl, frS.rf, hJ, by rw [e8]; exact hp⟩
