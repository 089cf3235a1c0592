/-! the reference: judgeForPool, whole -/
set_option maxHeartbeats 4000000 in
set_option maxRecDepth 100000 in
theorem c_jfp_2 {κ : hz_C} {z : Nat} {M : hz_M} {B : Nat} (hk0 : md_k B M z) (hE : mdE M B) {v tip : Nat} {bl : List bk_B} {en : List en_E} (hv : v < 6) (hnb : bl.length ≤ 128) (hlen : bl.length ≤ en.length) (hR : rvX (fA M B) v bl.length en) (hN : nbX (fA M B) (fL M B) v bl tip) (hwf : wfE en) (hbx : blX bl) (h24 : ∀ k, k < bl.length → (bBy bl k).length ≤ 200 ∨ fA M B 24 (128 * v + k) ≠ -1) (htip : tip < bl.length) (hcb : cbX bl en tip) (hcl : (coAt bl en tip).length ≤ 360) (hht : coHt (coAt bl en tip)) (hcv : cvX M B v bl en) {po : List po_P} (hp : poX (fA M B) (fL M B) v po) (hpw : poW po) {r n at_ : Nat} {f : Nat → Int32} {t : by_L} (hB : M r = .inl (1, n, .inl f)) (hr8 : 8 ≤ r) (hrz : r < z) (hro : ∀ o ∈ (0 :: [3, 4, 5, 6, 8, 9, 43, 44, 45, 46, 47, 48, 49, 50, 52]), r ≠ B + o) (hn : n < 2 ^ 24) (ht : isA f at_ t) (hat : at_ + t.length ≤ n) (hW : txW t) (hkn : ¬ poF po t < po.length) : hz_W κ xX12_judgeForPool 8 0 0 (fun rr z2 M2 => some (.int (nI (jPo po (coAt bl en tip) t (eH en tip + 1)))) = rr ∧ z = z2 ∧ mfr B [53, 54, 55, 59] [3, 4, 5, 6, 8, 9, 43, 44, 45, 46, 47, 48, 49, 50, 52] M M2 ∧ mdE M2 B ∧ ccP M M2 B v tip (coAt bl en tip) ∧ (jPo po (coAt bl en tip) t (eH en tip + 1) = 0 → fdB M2 B 59 = some (.long (jSp (coAt bl en tip) t (eH en tip + 1)).2))) 0 0 75 [(0, .ref B), (1, .int (nI v)), (2, .ref r), (3, .int (nI at_)), (4, .int (nI (t.length)))] [] z M := by
  obtain ⟨⟨fs, hO, hF⟩, -, -, h8, hz⟩ := id hk0
  have hO_ : md_O M B := ⟨fs, hO, hF⟩
  have hpl := hpw.1
  obtain ⟨w1, w2, w3, w4, w5⟩ := txW_sz hW
  have tl := txW_len hW
  refine hz_bytes hB hr8 hrz (fun hby => ?_)
  have hfi : f at_ = nI (txI t) := mb_bb (hby _ (by omega)) (by rw [show at_ = at_ + 0 from rfl, ht 0 (by omega)]; rfl) (by omega)
  have c1 : ¬ (¬ txS t = t.length ∨ t.length = 0) := fun q => q.elim (fun q => q hW.1) (fun q => hW.2 q)
  have hte := hwf.ht (k := tip) (by omega)
  refine hz_aloadn (pc := 75) 2 (hz_dec kX12_judgeForPool 41 rfl) rfl ?_
  refine hz_iloadn (pc := 76) 3 (hz_dec kX12_judgeForPool 42 rfl) rfl ?_
  refine hz_xS (pc := 77) (As := [.ref r, .int (nI at_)]) (st := []) (hz_dec kX12_judgeForPool 43 rfl) co_X12_482 sc_X12_inputsOf (c_minputsOf hB hr8 hrz (by omega) (by omega)) rfl (by decide) ⟨Nat.le_refl _, Nat.le_refl _⟩ (Nat.le_of_ble_eq_true rfl) rfl ?_
  refine hz_eqi (pc := 80) hfi ?_
  refine hz_z_ne (pc := 80) (tgt := 85) (hz_dec kX12_judgeForPool 44 rfl) (by decide) (by omega) (fun h1 => ?_) (fun h1 => ?_)
  · skip
    obtain ⟨cn, cbx, k54, k55, kcc⟩ := id hcv
    have hcc9 : cn = nI v → cbx = nI tip → mcR M B (coAt bl en tip) := fun q1 q2 => by
      obtain ⟨x, hx1, hx2, hx3⟩ := kcc q1
      have ex : x = tip := (nI_eq (by omega) (by omega)).mp (hx2.symm.trans q2)
      rw [← ex]
      exact hx3
    refine hz_aloadn (pc := 85) 0 (hz_dec kX12_judgeForPool 47 rfl) rfl ?_
    refine hz_iloadn (pc := 86) 1 (hz_dec kX12_judgeForPool 48 rfl) rfl ?_
    refine hz_aloadn (pc := 87) 0 (hz_dec kX12_judgeForPool 49 rfl) rfl ?_
    refine hz_get (pc := 88) (v := .ref (B + 21)) (hz_dec kX12_judgeForPool 50 rfl) fo_X12_74 hO h8 (by omega) (hF.2 23 (by decide) (by decide)) ?_
    refine hz_iloadn (pc := 91) 1 (hz_dec kX12_judgeForPool 51 rfl) rfl ?_
    refine hz_iald (pc := 92) (j := v) (hz_dec kX12_judgeForPool 52 rfl) hE.a21 (by omega) (by omega) rfl (by omega) (by decide) ?_
    refine hz_eqi (pc := 93) hN.2.1 ?_
    refine hz_callV (pc := 93) (a := B) (As := [.int (nI v), .int (nI tip)]) (st := []) (hz_dec kX12_judgeForPool 53 rfl) co_X12_553 im_X12_unspentBehind se_X12_unspentBehind rfl hO h8 (by omega) (c_unsp hO_ hE h8 hz hv hnb hlen hR hN hwf hbx h24 htip hcb k54 k55 hcc9) rfl (by decide) ⟨Nat.le_refl _, Nat.le_refl _⟩ (Nat.le_of_ble_eq_true rfl) rfl (fun r9 z9 M1 hp9 => ?_)
    obtain ⟨rfl, rfl, hf1, ⟨g50, hg50⟩, ⟨g49, hg49⟩, hc1, h541, h551⟩ := hp9
    have hE1 : mdE M1 B := hE.gen hf1 (A := [43, 44, 45, 46, 47, 48]) (E := [49, 50]) rfl hc1.sho (sho_c (shoA (by decide) hg49) (sho_c (shoA (by decide) hg50) sho_n))
    have hg1 : mfr B [53, 54, 55, 59] [3, 4, 5, 6, 8, 9, 43, 44, 45, 46, 47, 48, 49, 50, 52] M M1 := hf1.mono rfl rfl
    have hk1 : md_k B M1 z := hk0.mf hg1 rfl rfl
    obtain ⟨fs1, hO1, hF1⟩ := id hg1.2.1
    have hB1 : M1 r = .inl (1, n, .inl f) := (hg1.1 r hro).trans hB
    have hN1 := hN.mf hg1 rfl
    have hR1 := hR.mf hg1 rfl
    have hR1y := (hR1 tip (by omega)).1 htip
    have hcc1 : ccX M1 B v tip (coAt bl en tip) := ⟨nI tip, h551, Or.inr ⟨h541, rfl, hc1⟩⟩
    refine hz_aloadn (pc := 96) 0 (hz_dec kX12_judgeForPool 54 rfl) rfl ?_
    refine hz_aloadn (pc := 97) 2 (hz_dec kX12_judgeForPool 55 rfl) rfl ?_
    refine hz_iloadn (pc := 98) 3 (hz_dec kX12_judgeForPool 56 rfl) rfl ?_
    refine hz_iload (pc := 99) 4 (hz_dec kX12_judgeForPool 57 rfl) rfl ?_
    refine hz_aloadn (pc := 101) 0 (hz_dec kX12_judgeForPool 58 rfl) rfl ?_
    refine hz_get (pc := 102) (v := .ref (B + 27)) (hz_dec kX12_judgeForPool 59 rfl) fo_X12_92 hO1 h8 (by omega) (hF1.2 29 (by decide) (by decide)) ?_
    refine hz_iloadn (pc := 105) 1 (hz_dec kX12_judgeForPool 60 rfl) rfl ?_
    refine hz_aloadn (pc := 106) 0 (hz_dec kX12_judgeForPool 61 rfl) rfl ?_
    refine hz_get (pc := 107) (v := .ref (B + 21)) (hz_dec kX12_judgeForPool 62 rfl) fo_X12_74 hO1 h8 (by omega) (hF1.2 23 (by decide) (by decide)) ?_
    refine hz_iloadn (pc := 110) 1 (hz_dec kX12_judgeForPool 63 rfl) rfl ?_
    refine hz_iald (pc := 111) (j := v) (hz_dec kX12_judgeForPool 64 rfl) hE1.a21 (by omega) (by omega) rfl (by omega) (by decide) ?_
    refine hz_eqi (pc := 112) hN1.2.1 ?_
    refine hz_xS (pc := 112) (As := [.int (nI v), .int (nI tip)]) (st := [.ref (B + 27), .int (nI (t.length)), .int (nI at_), .ref r, .ref B]) (hz_dec kX12_judgeForPool 65 rfl) co_X12_419 sc_X12_at0 (c_at0) rfl (by decide) ⟨Nat.le_refl _, Nat.le_refl _⟩ (Nat.le_of_ble_eq_true rfl) rfl ?_
    refine hz_iald (pc := 115) (j := 128 * v + tip) (hz_dec kX12_judgeForPool 66 rfl) hE1.a27 (by omega) (by omega) rfl (by omega) (by decide) ?_
    refine hz_eqi (pc := 116) hR1y.2.1 ?_
    refine hz_iconst (pc := 116) (v := nI 1) (hz_dec kX12_judgeForPool 67 rfl) (by decide) ?_
    refine hz_addN (pc := 117) (hz_dec kX12_judgeForPool 68 rfl) ?_
    refine hz_callV (pc := 118) (a := B) (As := [.ref r, .int (nI at_), .int (nI (t.length)), .int (nI ((eH en tip) + 1))]) (st := []) (hz_dec kX12_judgeForPool 69 rfl) co_X12_556 im_X12_judgeSpending se_X12_judgeSpending rfl hO1 h8 (by omega) (c_jSpend hk1 hc1 hB1 hr8 hrz (fun o ho => hro o (by revert ho; revert o; decide)) (by omega) ht (by omega) hW (h_ := eH en tip + 1) (by omega) hht.l hE1.s ⟨_, hE1.a52⟩) rfl (by decide) ⟨Nat.le_refl _, Nat.le_refl _⟩ (Nat.le_of_ble_eq_true rfl) rfl (fun r9 z9 M2 hp9 => ?_)
    obtain ⟨rfl, rfl, hf2, hs2, h522, hfee⟩ := hp9
    obtain ⟨g52, hg52⟩ := h522
    have hE2 : mdE M2 B := hE1.gen hf2 (A := [3, 4, 5, 6, 7, 8, 9]) (E := [52]) rfl hs2.sho (sho_c (shoA (by decide) hg52) sho_n)
    have hg2 : mfr B [53, 54, 55, 59] [3, 4, 5, 6, 8, 9, 43, 44, 45, 46, 47, 48, 49, 50, 52] M M2 := hg1.tr (hf2.mono rfl rfl)
    have hcc2 : ccX M2 B v tip (coAt bl en tip) := hcc1.fr hf2 rfl rfl rfl rfl
    obtain ⟨fs2, hO2, hF2⟩ := id hg2.2.1
    have hB2 : M2 r = .inl (1, n, .inl f) := (hg2.1 r hro).trans hB
    have hp2 := hp.mf hg2 rfl
    have hv9 : (jSp (coAt bl en tip) t (eH en tip + 1)).1 < 100 := jSp_lt _ _ _
    refine hz_istore (pc := 121) (i := 5) (lo2 := [(5, .int (nI ((jSp (coAt bl en tip) t (eH en tip + 1)).1))), (0, .ref B), (1, .int (nI v)), (2, .ref r), (3, .int (nI at_)), (4, .int (nI (t.length)))]) (hz_dec kX12_judgeForPool 70 rfl) (by decide) rfl ?_
    refine hz_iload (pc := 123) 0 (hz_dec kX12_judgeForPool 71 rfl) rfl ?_
    refine hz_z_eq (pc := 125) (tgt := 131) (hz_dec kX12_judgeForPool 72 rfl) (by decide) (by omega) (fun h2 => ?_) (fun h2 => ?_)
    · skip
      refine hz_iconst (pc := 131) (v := nI 0) (hz_dec kX12_judgeForPool 75 rfl) (by decide) ?_
      refine hz_istore (pc := 132) (i := 6) (lo2 := [(6, .int (nI 0)), (5, .int (nI ((jSp (coAt bl en tip) t (eH en tip + 1)).1))), (0, .ref B), (1, .int (nI v)), (2, .ref r), (3, .int (nI at_)), (4, .int (nI (t.length)))]) (hz_dec kX12_judgeForPool 76 rfl) (by decide) rfl ?_
      refine hz_pick (pc := 134) [0, 2, 3, 4, 5] rfl ?_
      refine c_jfp_k ⟨fs2, hO2, hF2⟩ hE2 h8 hz hv hp2 hpw hB2 hr8 hrz hn ht hat hW (fun hcx => ?_) (fun hcx => ?_) po.length 0 rfl (by omega) (fun q hq => absurd hq (by omega))
      · have e9 : jPo po (coAt bl en tip) t (eH en tip + 1) = 16 := by unfold jPo; rw [if_neg c1, if_neg hkn, if_neg (show ¬ txI t = 0 by omega), if_neg (fun q => q (by omega)), if_pos hcx]
        exact ⟨by rw [e9], rfl, hg2, hE2, Or.inr hcc2, fun q9 => absurd (e9.symm.trans q9) (by omega)⟩
      · skip
        refine hz_aloadn (pc := 240) 0 (hz_dec kX12_judgeForPool 129 rfl) rfl ?_
        refine hz_get (pc := 241) (v := .ref (B + 58)) (hz_dec kX12_judgeForPool 130 rfl) fo_X12_193 hO2 h8 (by omega) (hF2.2 67 (by decide) (by decide)) ?_
        refine hz_iloadn (pc := 244) 1 (hz_dec kX12_judgeForPool 131 rfl) rfl ?_
        refine hz_iald (pc := 245) (j := v) (hz_dec kX12_judgeForPool 132 rfl) hE2.a58 (by omega) (by omega) rfl (by omega) (by decide) ?_
        refine hz_eqi (pc := 246) hp2.1 ?_
        refine hz_bipush (pc := 246) (v := nI 16) (hz_dec kX12_judgeForPool 133 rfl) (by decide) ?_
        refine hz_n_ne (pc := 248) (tgt := 256) (hz_dec kX12_judgeForPool 134 rfl) (by decide) (by omega) (by omega) (fun h5 => ?_) (fun h5 => ?_)
        · skip
          have e9 : jPo po (coAt bl en tip) t (eH en tip + 1) = 0 := by unfold jPo; rw [if_neg c1, if_neg hkn, if_neg (show ¬ txI t = 0 by omega), if_neg (fun q => q (by omega)), if_neg (by rw [hcx]; decide), if_neg (by omega)]
          refine hz_iconst (pc := 256) (v := nI 0) (hz_dec kX12_judgeForPool 137 rfl) (by decide) ?_
          exact hz_iret (pc := 257) (hz_dec kX12_judgeForPool 138 rfl) rfl ⟨by rw [e9], rfl, hg2, hE2, Or.inr hcc2, fun _ => hfee (by omega)⟩
        · skip
          have e9 : jPo po (coAt bl en tip) t (eH en tip + 1) = 15 := by unfold jPo; rw [if_neg c1, if_neg hkn, if_neg (show ¬ txI t = 0 by omega), if_neg (fun q => q (by omega)), if_neg (by rw [hcx]; decide), if_pos (by omega)]
          refine hz_bipush (pc := 251) (v := nI 15) (hz_dec kX12_judgeForPool 135 rfl) (by decide) ?_
          refine hz_goto (pc := 253) (tgt := 257) (hz_dec kX12_judgeForPool 136 rfl) (by decide) ?_
          exact hz_iret (pc := 257) (hz_dec kX12_judgeForPool 138 rfl) rfl ⟨by rw [e9], rfl, hg2, hE2, Or.inr hcc2, fun q9 => absurd (e9.symm.trans q9) (by omega)⟩
    · skip
      have e9 : jPo po (coAt bl en tip) t (eH en tip + 1) = (jSp (coAt bl en tip) t (eH en tip + 1)).1 := by unfold jPo; rw [if_neg c1, if_neg hkn, if_neg (show ¬ txI t = 0 by omega), if_pos (by omega)]
      refine hz_iload (pc := 128) 0 (hz_dec kX12_judgeForPool 73 rfl) rfl ?_
      exact hz_iret (pc := 130) (hz_dec kX12_judgeForPool 74 rfl) rfl ⟨by rw [e9], rfl, hg2, hE2, Or.inr hcc2, fun q9 => absurd (e9.symm.trans q9) (by omega)⟩
  · skip
    have e9 : jPo po (coAt bl en tip) t (eH en tip + 1) = 5 := by unfold jPo; rw [if_neg c1, if_neg hkn, if_pos h1]
    refine hz_iconst (pc := 83) (v := nI 5) (hz_dec kX12_judgeForPool 45 rfl) (by decide) ?_
    exact hz_iret (pc := 84) (hz_dec kX12_judgeForPool 46 rfl) rfl ⟨by rw [e9], rfl, mfr.rf hO_, hE, Or.inl ⟨rfl, rfl, fun _ q => q⟩, fun q9 => absurd (e9.symm.trans q9) (by omega)⟩
set_option maxHeartbeats 4000000 in
set_option maxRecDepth 100000 in
theorem c_jfp_1 {κ : hz_C} {z : Nat} {M : hz_M} {B : Nat} (hk0 : md_k B M z) (hE : mdE M B) {v tip : Nat} {bl : List bk_B} {en : List en_E} (hv : v < 6) (hnb : bl.length ≤ 128) (hlen : bl.length ≤ en.length) (hR : rvX (fA M B) v bl.length en) (hN : nbX (fA M B) (fL M B) v bl tip) (hwf : wfE en) (hbx : blX bl) (h24 : ∀ k, k < bl.length → (bBy bl k).length ≤ 200 ∨ fA M B 24 (128 * v + k) ≠ -1) (htip : tip < bl.length) (hcb : cbX bl en tip) (hcl : (coAt bl en tip).length ≤ 360) (hht : coHt (coAt bl en tip)) (hcv : cvX M B v bl en) {po : List po_P} (hp : poX (fA M B) (fL M B) v po) (hpw : poW po) {r n at_ : Nat} {f : Nat → Int32} {t : by_L} (hB : M r = .inl (1, n, .inl f)) (hr8 : 8 ≤ r) (hrz : r < z) (hro : ∀ o ∈ (0 :: [3, 4, 5, 6, 8, 9, 43, 44, 45, 46, 47, 48, 49, 50, 52]), r ≠ B + o) (hn : n < 2 ^ 24) (ht : isA f at_ t) (hat : at_ + t.length ≤ n) (hW : txW t) : ∀ k i, k = po.length - i → i ≤ po.length → (∀ j, j < i → smS (poL po j) t = false) → hz_W κ xX12_judgeForPool 8 0 0 (fun rr z2 M2 => some (.int (nI (jPo po (coAt bl en tip) t (eH en tip + 1)))) = rr ∧ z = z2 ∧ mfr B [53, 54, 55, 59] [3, 4, 5, 6, 8, 9, 43, 44, 45, 46, 47, 48, 49, 50, 52] M M2 ∧ mdE M2 B ∧ ccP M M2 B v tip (coAt bl en tip) ∧ (jPo po (coAt bl en tip) t (eH en tip + 1) = 0 → fdB M2 B 59 = some (.long (jSp (coAt bl en tip) t (eH en tip + 1)).2))) 0 0 15 [(5, .int (nI i)), (0, .ref B), (1, .int (nI v)), (2, .ref r), (3, .int (nI at_)), (4, .int (nI (t.length)))] [] z M := by
  intro k
  induction k using Nat.strongRecOn with
  | ind k ih =>
  intro i hk_ hi hno
  obtain ⟨⟨fs, hO, hF⟩, -, -, h8, hz⟩ := id hk0
  have hO_ : md_O M B := ⟨fs, hO, hF⟩
  have hpl := hpw.1
  have tl := txW_len hW
  have c1 : ¬ (¬ txS t = t.length ∨ t.length = 0) := fun q => q.elim (fun q => q hW.1) (fun q => hW.2 q)
  refine hz_iload (pc := 15) 0 (hz_dec kX12_judgeForPool 9 rfl) rfl ?_
  refine hz_aloadn (pc := 17) 1 (hz_dec kX12_judgeForPool 10 rfl) rfl ?_
  refine hz_get (pc := 18) (v := .ref (B + 58)) (hz_dec kX12_judgeForPool 11 rfl) fo_X12_193 hO h8 (by omega) (hF.2 67 (by decide) (by decide)) ?_
  refine hz_iloadn (pc := 21) 2 (hz_dec kX12_judgeForPool 12 rfl) rfl ?_
  refine hz_iald (pc := 22) (j := v) (hz_dec kX12_judgeForPool 13 rfl) hE.a58 (by omega) (by omega) rfl (by omega) (by decide) ?_
  refine hz_eqi (pc := 23) hp.1 ?_
  refine hz_n_ge (pc := 23) (tgt := 75) (hz_dec kX12_judgeForPool 14 rfl) (by decide) (by omega) (by omega) (fun h1 => ?_) (fun h1 => ?_)
  · skip
    have e : i = po.length := by omega
    refine hz_pick (pc := 75) [1, 2, 3, 4, 5] rfl ?_
    exact c_jfp_2 hk0 hE hv hnb hlen hR hN hwf hbx h24 htip hcb hcl hht hcv hp hpw hB hr8 hrz hro hn ht hat hW (by unfold poF; rw [fsI_no (p := fun k => smS (poL po k) t) _ (fun j hj => hno j (by omega))]; omega)
  · skip
    have hPA : isA (fA M B 54) (360 * (16 * v + i)) (poL po i) := (hp.2 i h1).2.2.2
    have plen := txW_len (hpw.2 i h1).1
    refine hz_bipush (pc := 26) (v := nI 16) (hz_dec kX12_judgeForPool 15 rfl) (by decide) ?_
    refine hz_iloadn (pc := 28) 2 (hz_dec kX12_judgeForPool 16 rfl) rfl ?_
    refine hz_mulN (pc := 29) (hz_dec kX12_judgeForPool 17 rfl) ?_
    refine hz_iload (pc := 30) 0 (hz_dec kX12_judgeForPool 18 rfl) rfl ?_
    refine hz_addN (pc := 32) (hz_dec kX12_judgeForPool 19 rfl) ?_
    refine hz_istore (pc := 33) (i := 6) (lo2 := [(6, .int (nI ((16 * v) + i))), (5, .int (nI i)), (0, .ref B), (1, .int (nI v)), (2, .ref r), (3, .int (nI at_)), (4, .int (nI (t.length)))]) (hz_dec kX12_judgeForPool 20 rfl) (by decide) rfl ?_
    refine hz_aloadn (pc := 35) 2 (hz_dec kX12_judgeForPool 21 rfl) rfl ?_
    refine hz_get (pc := 36) (v := .ref (B + 55)) (hz_dec kX12_judgeForPool 22 rfl) fo_X12_184 hO h8 (by omega) (hF.2 64 (by decide) (by decide)) ?_
    refine hz_iload (pc := 39) 0 (hz_dec kX12_judgeForPool 23 rfl) rfl ?_
    refine hz_iald (pc := 41) (j := (16 * v) + i) (hz_dec kX12_judgeForPool 24 rfl) hE.a55 (by omega) (by omega) rfl (by omega) (by decide) ?_
    refine hz_eqi (pc := 42) (hp.2 i h1).1 ?_
    refine hz_iload (pc := 42) 6 (hz_dec kX12_judgeForPool 25 rfl) rfl ?_
    refine hz_n_ne (pc := 44) (tgt := 69) (hz_dec kX12_judgeForPool 26 rfl) (by decide) (by omega) (by omega) (fun h2 => ?_) (fun h2 => ?_)
    · skip
      refine hz_incN (pc := 69) (i := 5) (lo2 := [(5, .int (nI (i + 1))), (6, .int (nI ((16 * v) + i))), (0, .ref B), (1, .int (nI v)), (2, .ref r), (3, .int (nI at_)), (4, .int (nI (t.length)))]) 1 (hz_dec kX12_judgeForPool 39 rfl) rfl (by decide) rfl ?_
      refine hz_goto (pc := 72) (tgt := 15) (hz_dec kX12_judgeForPool 40 rfl) (by decide) ?_
      refine hz_pick (pc := 15) [0, 2, 3, 4, 5, 6] rfl ?_
      refine ih (po.length - (i + 1)) (by omega) (i + 1) rfl (by omega) (fun j hj => ?_)
      rcases (show j = i ∨ j < i by omega) with e | c
      · rw [e]; exact decide_eq_false (fun q => h2 (by rw [q]))
      · exact hno j c
    · skip
      refine hz_aloadn (pc := 47) 2 (hz_dec kX12_judgeForPool 27 rfl) rfl ?_
      refine hz_get (pc := 48) (v := .ref (B + 54)) (hz_dec kX12_judgeForPool 28 rfl) fo_X12_181 hO h8 (by omega) (hF.2 63 (by decide) (by decide)) ?_
      refine hz_sipush (pc := 51) (v := nI 360) (hz_dec kX12_judgeForPool 29 rfl) (by decide) ?_
      refine hz_iload (pc := 54) 0 (hz_dec kX12_judgeForPool 30 rfl) rfl ?_
      refine hz_mulN (pc := 56) (hz_dec kX12_judgeForPool 31 rfl) ?_
      refine hz_aloadn (pc := 57) 4 (hz_dec kX12_judgeForPool 32 rfl) rfl ?_
      refine hz_iloadn (pc := 58) 5 (hz_dec kX12_judgeForPool 33 rfl) rfl ?_
      refine hz_iload (pc := 59) 6 (hz_dec kX12_judgeForPool 34 rfl) rfl ?_
      refine hz_xS (pc := 61) (As := [.ref (B + 54), .int (nI (360 * ((16 * v) + i))), .ref r, .int (nI at_), .int (nI (t.length))]) (st := []) (hz_dec kX12_judgeForPool 35 rfl) co_X12_456 sc_X12_sameBytes (c_sameB hE.a54 (by omega) (by omega) (by decide) hB hr8 hrz (by omega) (by omega) (by omega)) rfl (by decide) ⟨Nat.le_refl _, Nat.le_refl _⟩ (Nat.le_of_ble_eq_true rfl) rfl ?_
      refine hz_eqi (pc := 64) (show _ = hz_b (smS (poL po i) t) by rw [smS_of hPA ht h2 rfl]) ?_
      refine hz_if_eq (pc := 64) (tgt := 69) (hz_dec kX12_judgeForPool 36 rfl) (by decide) (fun h3 => ?_) (fun h3 => ?_)
      · skip
        refine hz_incN (pc := 69) (i := 5) (lo2 := [(5, .int (nI (i + 1))), (6, .int (nI ((16 * v) + i))), (0, .ref B), (1, .int (nI v)), (2, .ref r), (3, .int (nI at_)), (4, .int (nI (t.length)))]) 1 (hz_dec kX12_judgeForPool 39 rfl) rfl (by decide) rfl ?_
        refine hz_goto (pc := 72) (tgt := 15) (hz_dec kX12_judgeForPool 40 rfl) (by decide) ?_
        refine hz_pick (pc := 15) [0, 2, 3, 4, 5, 6] rfl ?_
        refine ih (po.length - (i + 1)) (by omega) (i + 1) rfl (by omega) (fun j hj => ?_)
        rcases (show j = i ∨ j < i by omega) with e | c
        · rw [e]; exact hz_b0 h3
        · exact hno j c
      · skip
        have e9 : jPo po (coAt bl en tip) t (eH en tip + 1) = 2 := by unfold jPo; rw [if_neg c1, if_pos (show poF po t < po.length by unfold poF; rw [fsI_at (p := fun k => smS (poL po k) t) (i := i) (hz_b1 h3) hno _ h1]; exact h1)]
        refine hz_iconst (pc := 67) (v := nI 2) (hz_dec kX12_judgeForPool 37 rfl) (by decide) ?_
        exact hz_iret (pc := 68) (hz_dec kX12_judgeForPool 38 rfl) rfl ⟨by rw [e9], rfl, mfr.rf hO_, hE, Or.inl ⟨rfl, rfl, fun _ q => q⟩, fun q9 => absurd (e9.symm.trans q9) (by omega)⟩
set_option maxHeartbeats 4000000 in
set_option maxRecDepth 100000 in
theorem c_jfp {κ : hz_C} {z : Nat} {M : hz_M} {B : Nat} (hk0 : md_k B M z) (hE : mdE M B) {v tip : Nat} {bl : List bk_B} {en : List en_E} (hv : v < 6) (hnb : bl.length ≤ 128) (hlen : bl.length ≤ en.length) (hR : rvX (fA M B) v bl.length en) (hN : nbX (fA M B) (fL M B) v bl tip) (hwf : wfE en) (hbx : blX bl) (h24 : ∀ k, k < bl.length → (bBy bl k).length ≤ 200 ∨ fA M B 24 (128 * v + k) ≠ -1) (htip : tip < bl.length) (hcb : cbX bl en tip) (hcl : (coAt bl en tip).length ≤ 360) (hht : coHt (coAt bl en tip)) (hcv : cvX M B v bl en) {po : List po_P} (hp : poX (fA M B) (fL M B) v po) (hpw : poW po) {r n at_ : Nat} {f : Nat → Int32} {t : by_L} (hB : M r = .inl (1, n, .inl f)) (hr8 : 8 ≤ r) (hrz : r < z) (hro : ∀ o ∈ (0 :: [3, 4, 5, 6, 8, 9, 43, 44, 45, 46, 47, 48, 49, 50, 52]), r ≠ B + o) (hn : n < 2 ^ 24) (ht : isA f at_ t) (hat : at_ + t.length ≤ n) : hz_Mt κ xX12_judgeForPool 8 0 0 [.ref B, .int (nI v), .ref r, .int (nI at_), .int (nI t.length)] z M (fun rr z2 M2 => some (.int (nI (jPo po (coAt bl en tip) t (eH en tip + 1)))) = rr ∧ z = z2 ∧ mfr B [53, 54, 55, 59] [3, 4, 5, 6, 8, 9, 43, 44, 45, 46, 47, 48, 49, 50, 52] M M2 ∧ mdE M2 B ∧ ccP M M2 B v tip (coAt bl en tip) ∧ (jPo po (coAt bl en tip) t (eH en tip + 1) = 0 → fdB M2 B 59 = some (.long (jSp (coAt bl en tip) t (eH en tip + 1)).2))) := by
  refine hz_ent (lo := [(0, .ref B), (1, .int (nI v)), (2, .ref r), (3, .int (nI at_)), (4, .int (nI (t.length)))]) (by decide) (Nat.le_of_ble_eq_true rfl) rfl ?_
  obtain ⟨⟨fs, hO, hF⟩, -, -, h8, hz⟩ := id hk0
  have hO_ : md_O M B := ⟨fs, hO, hF⟩
  have hpl := hpw.1
  refine hz_aloadn (pc := 0) 2 (hz_dec kX12_judgeForPool 0 rfl) rfl ?_
  refine hz_iloadn (pc := 1) 3 (hz_dec kX12_judgeForPool 1 rfl) rfl ?_
  refine hz_iload (pc := 2) 4 (hz_dec kX12_judgeForPool 2 rfl) rfl ?_
  refine hz_xS (pc := 4) (As := [.ref r, .int (nI at_), .int (nI (t.length))]) (st := []) (hz_dec kX12_judgeForPool 3 rfl) co_X12_564 sc_X12_isTransaction (c_isTx hB hr8 hrz (by omega) hat) rfl (by decide) ⟨Nat.le_refl _, Nat.le_refl _⟩ (Nat.le_of_ble_eq_true rfl) rfl ?_
  refine hz_eqi (pc := 7) (show _ = hz_b (decide (txS t = t.length ∧ t.length ≠ 0)) by rw [txS_of ht rfl rfl]) ?_
  refine hz_if_ne (pc := 7) (tgt := 12) (hz_dec kX12_judgeForPool 4 rfl) (by decide) (fun h1 => ?_) (fun h1 => ?_)
  · skip
    refine hz_iconst (pc := 12) (v := nI 0) (hz_dec kX12_judgeForPool 7 rfl) (by decide) ?_
    refine hz_istore (pc := 13) (i := 5) (lo2 := [(5, .int (nI 0)), (0, .ref B), (1, .int (nI v)), (2, .ref r), (3, .int (nI at_)), (4, .int (nI (t.length)))]) (hz_dec kX12_judgeForPool 8 rfl) (by decide) rfl ?_
    refine hz_pick (pc := 15) [0, 1, 2, 3, 4, 5] rfl ?_
    exact c_jfp_1 hk0 hE hv hnb hlen hR hN hwf hbx h24 htip hcb hcl hht hcv hp hpw hB hr8 hrz hro hn ht hat (show txS t = t.length ∧ t.length ≠ 0 from of_decide_eq_true (hz_b1 h1)) po.length 0 rfl (by omega) (fun j hj => absurd hj (by omega))
  · skip
    have e9 : jPo po (coAt bl en tip) t (eH en tip + 1) = 1 := by unfold jPo; rw [if_pos (by have q := of_decide_eq_false (hz_b0 h1); by_cases c : txS t = t.length; exact Or.inr (Decidable.not_not.mp (fun d => q ⟨c, d⟩)); exact Or.inl c)]
    refine hz_iconst (pc := 10) (v := nI 1) (hz_dec kX12_judgeForPool 5 rfl) (by decide) ?_
    exact hz_iret (pc := 11) (hz_dec kX12_judgeForPool 6 rfl) rfl ⟨by rw [e9], rfl, mfr.rf hO_, hE, Or.inl ⟨rfl, rfl, fun _ q => q⟩, fun q9 => absurd (e9.symm.trans q9) (by omega)⟩
