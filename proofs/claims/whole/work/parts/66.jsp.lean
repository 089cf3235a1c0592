/-! the reference: judgeSpending -/
theorem md_k.mf {B z : Nat} {ks os : List Nat} {M M2 : hz_M} (h : md_k B M z) (f : mfr B ks os M M2) (h1 : os.elem 1 = false) (h2 : os.elem 2 = false) : md_k B M2 z := by
  obtain ⟨-, ⟨ff, q1, q2⟩, ⟨fa, q3, q4⟩, q5⟩ := h
  exact ⟨f.2.1, ⟨ff, (f.at 1 (by decide) h1).trans q1, q2⟩, ⟨fa, (f.at 2 (by decide) h2).trans q3, q4⟩, q5⟩
set_option maxHeartbeats 4000000 in
set_option maxRecDepth 100000 in
theorem c_js_e {κ : hz_C} {z : Nat} {M0 : hz_M} {B : Nat} (hk0 : md_k B M0 z) {cs : List co_C} (hc0 : mcR M0 B cs) {b n at_ : Nat} {f : Nat → Int32} {t : by_L} (hB0 : M0 b = .inl (1, n, .inl f)) (hb8 : 8 ≤ b) (hbz : b < z) (hbo : ∀ o ∈ (0 :: [3, 4, 5, 6, 8, 9, 52]), b ≠ B + o) (hn : n < 2 ^ 24) (ht : isA f at_ t) (hat : at_ + t.length ≤ n) (hW : txW t) {h_ : Nat} (hh : h_ < 100000) (hcl : ∀ k, k < cs.length → (coL cs k).2.2.2.2.1 < 100000) {acc : Int64} (hjn : jIn cs t h_ (txI t) 0 0 = (0, acc)) : ∀ k i s M, k = txO t - i → i ≤ txO t → mfr B [59] [3, 4, 5, 6, 8, 9, 52] M0 M → md_s B M → (∃ g : Nat → Int32, M (B + 52) = .inl (1, 400, .inl g)) → paK t i = some s → hz_W κ xX12_judgeSpending 7 0 0 (fun r z2 M2 => some (.int (nI (jSp cs t h_).1)) = r ∧ z = z2 ∧ mfr B [59] [3, 4, 5, 6, 8, 9, 52] M0 M2 ∧ md_s B M2 ∧ (∃ g : Nat → Int32, M2 (B + 52) = .inl (1, 400, .inl g)) ∧ ((jSp cs t h_).1 = 0 → fdB M2 B 59 = some (.long (jSp cs t h_).2))) 0 0 193 [(10, .int (nI i)), (8, .long s), (6, .long acc), (0, .ref B), (1, .ref b), (2, .int (nI at_)), (3, .int (nI (t.length)))] [] z M := by
  intro k
  induction k using Nat.strongRecOn with
  | ind k ih =>
  intro i s M hk_ hi hfr hs h52 hpa
  obtain ⟨w1, w2, w3, w4, w5⟩ := txW_sz hW
  have hoa : 73 * txI t ≤ tx_oa (txI t) ∧ tx_oa (txI t) ≤ 292 := by unfold tx_oa; split <;> omega
  have hk : md_k B M z := hk0.mf hfr rfl rfl
  obtain ⟨-, -, -, h8, hz⟩ := id hk
  have hc : mcR M B cs := hc0.fr hfr rfl rfl
  have hB : M b = .inl (1, n, .inl f) := (hfr.1 b hbo).trans hB0
  obtain ⟨⟨fs, hO, hF⟩, hs53, hle, f1, f2, f3, f4, f5, f6, g1, g2, g3, g4, g5, g6, hX⟩ := id hc
  rw [fdB_of hO] at hs53
  refine hz_bytes hB hb8 hbz (fun hby => ?_)
  have e1 : (jIn cs t h_ (txI t) 0 0).1 = 0 := by rw [hjn]
  have e2 : (jIn cs t h_ (txI t) 0 0).2 = acc := by rw [hjn]
  refine hz_iload (pc := 193) 0 (hz_dec kX12_judgeSpending 104 rfl) rfl ?_
  refine hz_aloadn (pc := 195) 4 (hz_dec kX12_judgeSpending 105 rfl) rfl ?_
  refine hz_iloadn (pc := 196) 5 (hz_dec kX12_judgeSpending 106 rfl) rfl ?_
  refine hz_xS (pc := 197) (As := [.ref b, .int (nI at_)]) (st := [.int (nI i)]) (hz_dec kX12_judgeSpending 107 rfl) co_X12_495 sc_X12_outputsOf (c_moutputsOf hB hb8 hbz (by omega) (by omega)) rfl (by decide) ⟨Nat.le_refl _, Nat.le_refl _⟩ (Nat.le_of_ble_eq_true rfl) rfl ?_
  refine hz_eqi (pc := 200) (show _ = nI (txO t) from mb_bb (hby _ (by omega)) (by rw [ht 1 (by omega)]; rfl) (by omega)) ?_
  refine hz_n_ge (pc := 200) (tgt := 242) (hz_dec kX12_judgeSpending 108 rfl) (by decide) (by omega) (by omega) (fun h1 => ?_) (fun h1 => ?_)
  · skip
    have e : i = txO t := by omega
    subst e
    have hps : paS t = some s := hpa
    have hpv : paV (paS t) = s := by rw [hps]; rfl
    refine hz_lload (pc := 242) 1 (hz_dec kX12_judgeSpending 129 rfl) rfl ?_
    refine hz_lload (pc := 244) 2 (hz_dec kX12_judgeSpending 130 rfl) rfl ?_
    refine hz_lcmp (pc := 246) (hz_dec kX12_judgeSpending 131 rfl) ?_
    refine hz_if_le (pc := 247) (tgt := 253) (hz_dec kX12_judgeSpending 132 rfl) (by decide) (fun h3 => ?_) (fun h3 => ?_)
    · skip
      have c9 : ¬ (paS t = none ∨ acc < paV (paS t)) := by rw [hpv, hps]; exact fun q => q.elim (fun q => by cases q) (fun q => Int64.not_lt.mpr ((lg_cmp_le _ _).mp h3) q)
      refine hz_aloadn (pc := 253) 3 (hz_dec kX12_judgeSpending 135 rfl) rfl ?_
      refine hz_lload (pc := 254) 2 (hz_dec kX12_judgeSpending 136 rfl) rfl ?_
      refine hz_lload (pc := 256) 1 (hz_dec kX12_judgeSpending 137 rfl) rfl ?_
      refine hz_lsub (pc := 258) (hz_dec kX12_judgeSpending 138 rfl) ?_
      refine hz_putl (pc := 259) (hz_dec kX12_judgeSpending 139 rfl) fo_X12_523 ft_X12_59 hO h8 (by omega) (by rw [hF.1]; decide) ?_
      refine hz_aloadn (pc := 262) 3 (hz_dec kX12_judgeSpending 140 rfl) rfl ?_
      refine hz_aloadn (pc := 263) 3 (hz_dec kX12_judgeSpending 141 rfl) rfl ?_
      refine hz_aloadn (pc := 264) 4 (hz_dec kX12_judgeSpending 142 rfl) rfl ?_
      refine hz_iloadn (pc := 265) 5 (hz_dec kX12_judgeSpending 143 rfl) rfl ?_
      refine hz_iloadn (pc := 266) 6 (hz_dec kX12_judgeSpending 144 rfl) rfl ?_
      have hfA : mfr B [59] [3, 4, 5, 6, 8, 9, 52] M (va_up M B (.inr (12, (List.set fs 59 (.long ((acc) - (s))))))) := (mfr.rf ⟨fs, hO, hF⟩).upO hO hF rfl rfl
      have hkA : md_k B (va_up M B (.inr (12, (List.set fs 59 (.long ((acc) - (s))))))) z := hk.mf hfA rfl rfl
      obtain ⟨⟨v3, q3⟩, ⟨v4, q4⟩, ⟨v5, q5⟩, ⟨v6, q6⟩, ⟨v7, q7⟩, ⟨v8, q8⟩, ⟨v9, q9⟩⟩ := id hs
      have hsA : md_s B (va_up M B (.inr (12, (List.set fs 59 (.long ((acc) - (s))))))) := ⟨⟨v3, hz_mne q3 (by omega)⟩, ⟨v4, hz_mne q4 (by omega)⟩, ⟨v5, hz_mne q5 (by omega)⟩, ⟨v6, hz_mne q6 (by omega)⟩, ⟨v7, hz_mne q7 (by omega)⟩, ⟨v8, hz_mne q8 (by omega)⟩, ⟨v9, hz_mne q9 (by omega)⟩⟩
      have hbB : b ≠ B := fun q => hbo 0 (by decide) q
      refine hz_callV (pc := 267) (a := B) (As := [.ref b, .int (nI at_), .int (nI (t.length))]) (st := [.ref B]) (hz_dec kX12_judgeSpending 145 rfl) co_X12_338 im_X12_shortOf se_X12_shortOf rfl (va_up_self _ _ _) h8 (by omega) (c_shortOf (n := t.length) hkA hsA (hz_mne hB hbB) hb8 hbz (by omega) (by omega)) rfl (by decide) ⟨Nat.le_refl _, Nat.le_refl _⟩ (Nat.le_of_ble_eq_true rfl) rfl (fun r9 z9 M2 hp9 => ?_)
      obtain ⟨rfl, rfl, hf2, hs2, -⟩ := hp9
      refine hz_eql (pc := 270) (show _ = idS t by rw [shS_of ht rfl]; rfl) ?_
      have hfB : mfr B [59] [3, 4, 5, 6, 8, 9, 52] M M2 := hfA.tr ((mfr.ofl (ks := [59]) hfA.2.1 hf2 rfl).mono rfl rfl)
      have hc2 : mcR M2 B cs := hc.fr hfB rfl rfl
      have e52 : ∃ g : Nat → Int32, M2 (B + 52) = .inl (1, 400, .inl g) := by obtain ⟨g, hg⟩ := h52; exact ⟨g, (hf2.at 52 rfl).trans (hz_mne hg (by omega))⟩
      have e59 : fdB M2 B 59 = some (.long (acc - s)) := by unfold fdB; rw [hf2.at0 rfl, va_up_self]; exact List.getElem?_set_self (by rw [hF.1]; decide)
      obtain ⟨fs2, hO2, hF2⟩ := id hc2.1
      refine hz_xV (pc := 270) (a := B) (As := [.long (idS t)]) (st := []) (hz_dec kX12_judgeSpending 146 rfl) co_X12_527 im_X12_hasCoins se_X12_hasCoins rfl hO2 h8 (by omega) (c_mcHs hc2 h8 hz) rfl (by decide) ⟨Nat.le_refl _, Nat.le_refl _⟩ (Nat.le_of_ble_eq_true rfl) rfl ?_
      refine hz_if_eq (pc := 273) (tgt := 281) (hz_dec kX12_judgeSpending 147 rfl) (by decide) (fun h4 => ?_) (fun h4 => ?_)
      · skip
        have e9 : jSp cs t h_ = (0, acc - s) := by unfold jSp; rw [if_pos e1, e2, if_neg c9, if_neg (by rw [hz_b0 h4]; decide), hpv]
        refine hz_iconst (pc := 281) (v := nI 0) (hz_dec kX12_judgeSpending 150 rfl) (by decide) ?_
        exact hz_iret (pc := 282) (hz_dec kX12_judgeSpending 151 rfl) rfl ⟨by rw [e9], rfl, hfr.tr hfB, hs2, e52, by rw [e9]; intro _; exact e59⟩
      · skip
        have e9 : jSp cs t h_ = (13, 0) := by unfold jSp; rw [if_pos e1, e2, if_neg c9, if_pos (hz_b1 h4)]
        refine hz_bipush (pc := 276) (v := nI 13) (hz_dec kX12_judgeSpending 148 rfl) (by decide) ?_
        refine hz_goto (pc := 278) (tgt := 282) (hz_dec kX12_judgeSpending 149 rfl) (by decide) ?_
        exact hz_iret (pc := 282) (hz_dec kX12_judgeSpending 151 rfl) rfl ⟨by rw [e9], rfl, hfr.tr hfB, hs2, e52, by rw [e9]; intro q; exact absurd q (by decide)⟩
    · skip
      have e9 : jSp cs t h_ = (12, 0) := by unfold jSp; rw [if_pos e1, e2, if_pos (Or.inr (by rw [hpv]; exact Int64.not_le.mp (fun q => h3 ((lg_cmp_le _ _).mpr q))))]
      refine hz_bipush (pc := 250) (v := nI 12) (hz_dec kX12_judgeSpending 133 rfl) (by decide) ?_
      exact hz_iret (pc := 252) (hz_dec kX12_judgeSpending 134 rfl) rfl ⟨by rw [e9], rfl, hfr, hs, h52, by rw [e9]; intro q; exact absurd q (by decide)⟩
  · skip
    have hf0 : bb (f at_) = txI t := by rw [show at_ = at_ + 0 from rfl, ht 0 (by omega)]; rfl
    have ho : ouA t i + 16 ≤ t.length := by unfold ouA; omega
    refine hz_aloadn (pc := 203) 4 (hz_dec kX12_judgeSpending 109 rfl) rfl ?_
    refine hz_iloadn (pc := 204) 5 (hz_dec kX12_judgeSpending 110 rfl) rfl ?_
    refine hz_iload (pc := 205) 0 (hz_dec kX12_judgeSpending 111 rfl) rfl ?_
    refine hz_xS (pc := 207) (As := [.ref b, .int (nI at_), .int (nI i)]) (st := []) (hz_dec kX12_judgeSpending 112 rfl) co_X12_498 sc_X12_outputAt (c_moutputAt hB hb8 hbz (by omega) (by omega) (by omega)) rfl (by decide) ⟨Nat.le_refl _, Nat.le_refl _⟩ (Nat.le_of_ble_eq_true rfl) rfl ?_
    refine hz_eqi (pc := 210) (show _ = nI (at_ + ouA t i) by rw [hf0]; unfold ouA; congr 1; omega) ?_
    refine hz_istore (pc := 210) (i := 11) (lo2 := [(11, .int (nI (at_ + ouA t i))), (10, .int (nI i)), (8, .long s), (6, .long acc), (0, .ref B), (1, .ref b), (2, .int (nI at_)), (3, .int (nI (t.length)))]) (hz_dec kX12_judgeSpending 113 rfl) (by decide) rfl ?_
    refine hz_aloadn (pc := 212) 4 (hz_dec kX12_judgeSpending 114 rfl) rfl ?_
    refine hz_aloadn (pc := 213) 5 (hz_dec kX12_judgeSpending 115 rfl) rfl ?_
    refine hz_iload (pc := 214) 0 (hz_dec kX12_judgeSpending 116 rfl) rfl ?_
    refine hz_xV (pc := 216) (a := B) (As := [.ref b, .int (nI (at_ + ouA t i))]) (st := []) (hz_dec kX12_judgeSpending 117 rfl) co_X12_519 im_X12_isAmount se_X12_isAmount rfl hO h8 (by omega) (c_isAm hB hb8 hbz (by omega) (by omega)) rfl (by decide) ⟨Nat.le_refl _, Nat.le_refl _⟩ (Nat.le_of_ble_eq_true rfl) rfl ?_
    refine hz_eqi (pc := 219) (show _ = hz_b (amB (bn_num (lf t) (ouA t i) 8)) by rw [num_of ht (by omega)]) ?_
    refine hz_if_ne (pc := 219) (tgt := 225) (hz_dec kX12_judgeSpending 118 rfl) (by decide) (fun h2 => ?_) (fun h2 => ?_)
    · skip
      refine hz_lload (pc := 225) 2 (hz_dec kX12_judgeSpending 121 rfl) rfl ?_
      refine hz_aloadn (pc := 227) 5 (hz_dec kX12_judgeSpending 122 rfl) rfl ?_
      refine hz_iload (pc := 228) 0 (hz_dec kX12_judgeSpending 123 rfl) rfl ?_
      refine hz_xS (pc := 230) (As := [.ref b, .int (nI (at_ + ouA t i))]) (st := [.long s]) (hz_dec kX12_judgeSpending 124 rfl) co_X12_330 sc_X12_longAt (c_longAt hB hb8 hbz (by omega) (by omega)) rfl (by decide) ⟨Nat.le_refl _, Nat.le_refl _⟩ (Nat.le_of_ble_eq_true rfl) rfl ?_
      refine hz_eql (pc := 233) (num_of ht (by omega)) ?_
      refine hz_ladd (pc := 233) (hz_dec kX12_judgeSpending 125 rfl) ?_
      refine hz_lstore (pc := 234) (i := 8) (lo2 := [(8, .long ((s) + (bn_num (lf t) (ouA t i) 8))), (11, .int (nI (at_ + ouA t i))), (10, .int (nI i)), (6, .long acc), (0, .ref B), (1, .ref b), (2, .int (nI at_)), (3, .int (nI (t.length)))]) (hz_dec kX12_judgeSpending 126 rfl) (by decide) rfl ?_
      refine hz_incN (pc := 236) (i := 10) (lo2 := [(10, .int (nI (i + 1))), (8, .long ((s) + (bn_num (lf t) (ouA t i) 8))), (11, .int (nI (at_ + ouA t i))), (6, .long acc), (0, .ref B), (1, .ref b), (2, .int (nI at_)), (3, .int (nI (t.length)))]) 2 (hz_dec kX12_judgeSpending 127 rfl) rfl (by decide) rfl ?_
      refine hz_goto (pc := 239) (tgt := 193) (hz_dec kX12_judgeSpending 128 rfl) (by decide) ?_
      refine hz_pick (pc := 193) [0, 1, 3, 4, 5, 6, 7] rfl ?_
      exact ih (txO t - (i + 1)) (by omega) (i + 1) _ M rfl (by omega) hfr hs h52 (paK_t hpa (hz_b1 h2))
    · skip
      have e9 : jSp cs t h_ = (12, 0) := by unfold jSp; rw [if_pos e1, e2, if_pos (show paS t = none ∨ acc < paV (paS t) from Or.inl (paK_f (k := i) (hz_b0 h2) _ (by omega)))]
      refine hz_bipush (pc := 222) (v := nI 12) (hz_dec kX12_judgeSpending 119 rfl) (by decide) ?_
      exact hz_iret (pc := 224) (hz_dec kX12_judgeSpending 120 rfl) rfl ⟨by rw [e9], rfl, hfr, hs, h52, by rw [e9]; intro q; exact absurd q (by decide)⟩
set_option maxHeartbeats 4000000 in
set_option maxRecDepth 100000 in
theorem c_js_0 {κ : hz_C} {z : Nat} {M : hz_M} {P : hz_P} {i j : Nat} (hi : i < 100) (hj : j < 100) (hP : P (some (.int (nI 10))) z M) : hz_W κ xX12_judgeSpending 7 0 0 P 0 0 94 [(12, .int (nI j)), (11, .int (nI 0)), (8, .int (nI i))] [] z M := by
  refine hz_iload (pc := 94) 0 (hz_dec kX12_judgeSpending 53 rfl) rfl ?_
  refine hz_iload (pc := 96) 2 (hz_dec kX12_judgeSpending 54 rfl) rfl ?_
  refine hz_n_ge (pc := 98) (tgt := 138) (hz_dec kX12_judgeSpending 55 rfl) (by decide) (by omega) (by omega) (fun h1 => ?_) (fun h1 => ?_)
  · skip
    refine hz_iload (pc := 138) 1 (hz_dec kX12_judgeSpending 74 rfl) rfl ?_
    refine hz_z_ne (pc := 140) (tgt := 146) (hz_dec kX12_judgeSpending 75 rfl) (by decide) (by omega) (fun h2 => ?_) (fun h2 => ?_)
    · skip
      exact absurd h2 (by omega)
    · skip
      refine hz_bipush (pc := 143) (v := nI 10) (hz_dec kX12_judgeSpending 76 rfl) (by decide) ?_
      exact hz_iret (pc := 145) (hz_dec kX12_judgeSpending 77 rfl) rfl hP
  · skip
    refine hz_iload (pc := 101) 1 (hz_dec kX12_judgeSpending 56 rfl) rfl ?_
    refine hz_z_eq (pc := 103) (tgt := 138) (hz_dec kX12_judgeSpending 57 rfl) (by decide) (by omega) (fun h3 => ?_) (fun h3 => ?_)
    · skip
      refine hz_iload (pc := 138) 1 (hz_dec kX12_judgeSpending 74 rfl) rfl ?_
      refine hz_z_ne (pc := 140) (tgt := 146) (hz_dec kX12_judgeSpending 75 rfl) (by decide) (by omega) (fun h2 => ?_) (fun h2 => ?_)
      · skip
        exact absurd h2 (by omega)
      · skip
        refine hz_bipush (pc := 143) (v := nI 10) (hz_dec kX12_judgeSpending 76 rfl) (by decide) ?_
        exact hz_iret (pc := 145) (hz_dec kX12_judgeSpending 77 rfl) rfl hP
    · skip
      exact absurd h3 (by omega)
set_option maxHeartbeats 4000000 in
set_option maxRecDepth 100000 in
theorem c_js_1 {κ : hz_C} {z : Nat} {M0 : hz_M} {B : Nat} (hk0 : md_k B M0 z) {cs : List co_C} (hc0 : mcR M0 B cs) {b n at_ : Nat} {f : Nat → Int32} {t : by_L} (hB0 : M0 b = .inl (1, n, .inl f)) (hb8 : 8 ≤ b) (hbz : b < z) (hbo : ∀ o ∈ (0 :: [3, 4, 5, 6, 8, 9, 52]), b ≠ B + o) (hn : n < 2 ^ 24) (ht : isA f at_ t) (hat : at_ + t.length ≤ n) (hW : txW t) {h_ : Nat} (hh : h_ < 100000) (hcl : ∀ k, k < cs.length → (coL cs k).2.2.2.2.1 < 100000) {M : hz_M} (hfr : mfr B [59] [3, 4, 5, 6, 8, 9, 52] M0 M) (hs : md_s B M) (h52 : ∃ g : Nat → Int32, M (B + 52) = .inl (1, 400, .inl g)) {P : hz_P} {i c : Nat} {acc : Int64} (hi : i < txI t) (hP : dupI t i = true → P (some (.int (nI 10))) z M) (K : dupI t i = false → hz_W κ xX12_judgeSpending 7 0 0 P 0 0 146 [(10, .int (nI c)), (9, .int (nI (at_ + 2 + 73 * i))), (8, .int (nI i)), (5, .int (nI (txI t))), (6, .long acc), (0, .ref B), (1, .ref b), (2, .int (nI at_)), (3, .int (nI (t.length))), (4, .int (nI h_))] [] z M) : ∀ k j, k = i - j → j ≤ i → (∀ q, q < j → smB f f (at_ + 2 + 73 * q) (at_ + 2 + 73 * i) 9 = false) → hz_W κ xX12_judgeSpending 7 0 0 P 0 0 94 [(12, .int (nI j)), (11, .int (nI 1)), (10, .int (nI c)), (9, .int (nI (at_ + 2 + 73 * i))), (8, .int (nI i)), (5, .int (nI (txI t))), (6, .long acc), (0, .ref B), (1, .ref b), (2, .int (nI at_)), (3, .int (nI (t.length))), (4, .int (nI h_))] [] z M := by
  intro k
  induction k using Nat.strongRecOn with
  | ind k ih =>
  intro j hk_ hj hs9
  obtain ⟨w1, w2, w3, w4, w5⟩ := txW_sz hW
  have hoa : 73 * txI t ≤ tx_oa (txI t) ∧ tx_oa (txI t) ≤ 292 := by unfold tx_oa; split <;> omega
  have hk : md_k B M z := hk0.mf hfr rfl rfl
  obtain ⟨-, -, -, h8, hz⟩ := id hk
  have hc : mcR M B cs := hc0.fr hfr rfl rfl
  have hB : M b = .inl (1, n, .inl f) := (hfr.1 b hbo).trans hB0
  obtain ⟨⟨fs, hO, hF⟩, hs53, hle, f1, f2, f3, f4, f5, f6, g1, g2, g3, g4, g5, g6, hX⟩ := id hc
  rw [fdB_of hO] at hs53
  refine hz_bytes hB hb8 hbz (fun hby => ?_)
  refine hz_iload (pc := 94) 0 (hz_dec kX12_judgeSpending 53 rfl) rfl ?_
  refine hz_iload (pc := 96) 4 (hz_dec kX12_judgeSpending 54 rfl) rfl ?_
  refine hz_n_ge (pc := 98) (tgt := 138) (hz_dec kX12_judgeSpending 55 rfl) (by decide) (by omega) (by omega) (fun h1 => ?_) (fun h1 => ?_)
  · skip
    have e : j = i := by omega
    subst e
    refine hz_iload (pc := 138) 1 (hz_dec kX12_judgeSpending 74 rfl) rfl ?_
    refine hz_z_ne (pc := 140) (tgt := 146) (hz_dec kX12_judgeSpending 75 rfl) (by decide) (by omega) (fun h2 => ?_) (fun h2 => ?_)
    · skip
      refine hz_pick (pc := 146) [2, 3, 4, 5, 6, 7, 8, 9, 10, 11] rfl ?_
      exact K (by rw [← dupI_of ht (b := at_ + 2 + 73 * j) (by omega) (by omega)]; exact dupF_f _ hs9)
    · skip
      exact absurd h2 (by omega)
  · skip
    refine hz_iload (pc := 101) 1 (hz_dec kX12_judgeSpending 56 rfl) rfl ?_
    refine hz_z_eq (pc := 103) (tgt := 138) (hz_dec kX12_judgeSpending 57 rfl) (by decide) (by omega) (fun h2 => ?_) (fun h2 => ?_)
    · skip
      exact absurd h2 (by omega)
    · skip
      refine hz_aloadn (pc := 106) 8 (hz_dec kX12_judgeSpending 58 rfl) rfl ?_
      refine hz_iload (pc := 107) 3 (hz_dec kX12_judgeSpending 59 rfl) rfl ?_
      refine hz_aloadn (pc := 109) 8 (hz_dec kX12_judgeSpending 60 rfl) rfl ?_
      refine hz_aloadn (pc := 110) 8 (hz_dec kX12_judgeSpending 61 rfl) rfl ?_
      refine hz_iloadn (pc := 111) 9 (hz_dec kX12_judgeSpending 62 rfl) rfl ?_
      refine hz_iload (pc := 112) 0 (hz_dec kX12_judgeSpending 63 rfl) rfl ?_
      refine hz_xS (pc := 114) (As := [.ref b, .int (nI at_), .int (nI j)]) (st := [.ref b, .int (nI (at_ + 2 + 73 * i)), .ref b]) (hz_dec kX12_judgeSpending 64 rfl) co_X12_485 sc_X12_inputAt (c_minputAt) rfl (by decide) ⟨Nat.le_refl _, Nat.le_refl _⟩ (Nat.le_of_ble_eq_true rfl) rfl ?_
      refine hz_bipush (pc := 117) (v := nI 9) (hz_dec kX12_judgeSpending 65 rfl) (by decide) ?_
      refine hz_xS (pc := 119) (As := [.ref b, .int (nI (at_ + 2 + 73 * i)), .ref b, .int (nI (at_ + 2 + 73 * j)), .int (nI 9)]) (st := []) (hz_dec kX12_judgeSpending 66 rfl) co_X12_456 sc_X12_sameBytes (c_sameB hB hb8 hbz (by omega) hB hb8 hbz (by omega) (by omega) (by omega)) rfl (by decide) ⟨Nat.le_refl _, Nat.le_refl _⟩ (Nat.le_of_ble_eq_true rfl) rfl ?_
      refine hz_eqi (pc := 122) (show _ = hz_b (smB f f (at_ + 2 + 73 * j) (at_ + 2 + 73 * i) 9) by rw [smB_s]) ?_
      refine hz_if_ne (pc := 122) (tgt := 129) (hz_dec kX12_judgeSpending 67 rfl) (by decide) (fun h3 => ?_) (fun h3 => ?_)
      · skip
        refine hz_iconst (pc := 129) (v := nI 0) (hz_dec kX12_judgeSpending 70 rfl) (by decide) ?_
        refine hz_istore (pc := 130) (i := 11) (lo2 := [(11, .int (nI 0)), (12, .int (nI j)), (10, .int (nI c)), (9, .int (nI (at_ + 2 + 73 * i))), (8, .int (nI i)), (5, .int (nI (txI t))), (6, .long acc), (0, .ref B), (1, .ref b), (2, .int (nI at_)), (3, .int (nI (t.length))), (4, .int (nI h_))]) (hz_dec kX12_judgeSpending 71 rfl) (by decide) rfl ?_
        refine hz_incN (pc := 132) (i := 12) (lo2 := [(12, .int (nI (j + 1))), (11, .int (nI 0)), (10, .int (nI c)), (9, .int (nI (at_ + 2 + 73 * i))), (8, .int (nI i)), (5, .int (nI (txI t))), (6, .long acc), (0, .ref B), (1, .ref b), (2, .int (nI at_)), (3, .int (nI (t.length))), (4, .int (nI h_))]) 1 (hz_dec kX12_judgeSpending 72 rfl) rfl (by decide) rfl ?_
        refine hz_goto (pc := 135) (tgt := 94) (hz_dec kX12_judgeSpending 73 rfl) (by decide) ?_
        refine hz_pick (pc := 94) [0, 1, 4] rfl ?_
        exact c_js_0 (by omega) (by omega) (hP (by rw [← dupI_of ht (b := at_ + 2 + 73 * i) (by omega) (by omega)]; exact dupF_t (hz_b1 h3) _ h1))
      · skip
        refine hz_iconst (pc := 125) (v := nI 1) (hz_dec kX12_judgeSpending 68 rfl) (by decide) ?_
        refine hz_goto (pc := 126) (tgt := 130) (hz_dec kX12_judgeSpending 69 rfl) (by decide) ?_
        refine hz_istore (pc := 130) (i := 11) (lo2 := [(11, .int (nI 1)), (12, .int (nI j)), (10, .int (nI c)), (9, .int (nI (at_ + 2 + 73 * i))), (8, .int (nI i)), (5, .int (nI (txI t))), (6, .long acc), (0, .ref B), (1, .ref b), (2, .int (nI at_)), (3, .int (nI (t.length))), (4, .int (nI h_))]) (hz_dec kX12_judgeSpending 71 rfl) (by decide) rfl ?_
        refine hz_incN (pc := 132) (i := 12) (lo2 := [(12, .int (nI (j + 1))), (11, .int (nI 1)), (10, .int (nI c)), (9, .int (nI (at_ + 2 + 73 * i))), (8, .int (nI i)), (5, .int (nI (txI t))), (6, .long acc), (0, .ref B), (1, .ref b), (2, .int (nI at_)), (3, .int (nI (t.length))), (4, .int (nI h_))]) 1 (hz_dec kX12_judgeSpending 72 rfl) rfl (by decide) rfl ?_
        refine hz_goto (pc := 135) (tgt := 94) (hz_dec kX12_judgeSpending 73 rfl) (by decide) ?_
        refine hz_pick (pc := 94) [0, 1, 2, 3, 4, 5, 6, 7, 8, 9, 10, 11] rfl ?_
        refine ih (i - (j + 1)) (by omega) (j + 1) rfl (by omega) (fun q hq => ?_)
        rcases (show q = j ∨ q < j by omega) with rfl | c9
        · exact hz_b0 h3
        · exact hs9 q c9
set_option maxHeartbeats 4000000 in
set_option maxRecDepth 100000 in
theorem c_js_l {κ : hz_C} {z : Nat} {M0 : hz_M} {B : Nat} (hk0 : md_k B M0 z) {cs : List co_C} (hc0 : mcR M0 B cs) {b n at_ : Nat} {f : Nat → Int32} {t : by_L} (hB0 : M0 b = .inl (1, n, .inl f)) (hb8 : 8 ≤ b) (hbz : b < z) (hbo : ∀ o ∈ (0 :: [3, 4, 5, 6, 8, 9, 52]), b ≠ B + o) (hn : n < 2 ^ 24) (ht : isA f at_ t) (hat : at_ + t.length ≤ n) (hW : txW t) {h_ : Nat} (hh : h_ < 100000) (hcl : ∀ k, k < cs.length → (coL cs k).2.2.2.2.1 < 100000) : ∀ k i acc M, k = txI t - i → i ≤ txI t → mfr B [59] [3, 4, 5, 6, 8, 9, 52] M0 M → md_s B M → (∃ g : Nat → Int32, M (B + 52) = .inl (1, 400, .inl g)) → (∃ q : Nat → Int32, M (B + 9) = .inl (0, 8, .inl q) ∧ ∀ j, j < 8 → q j = nI (dgT t j)) → jIn cs t h_ (txI t) 0 0 = jIn cs t h_ (txI t - i) i acc → hz_W κ xX12_judgeSpending 7 0 0 (fun r z2 M2 => some (.int (nI (jSp cs t h_).1)) = r ∧ z = z2 ∧ mfr B [59] [3, 4, 5, 6, 8, 9, 52] M0 M2 ∧ md_s B M2 ∧ (∃ g : Nat → Int32, M2 (B + 52) = .inl (1, 400, .inl g)) ∧ ((jSp cs t h_).1 = 0 → fdB M2 B 59 = some (.long (jSp cs t h_).2))) 0 0 20 [(8, .int (nI i)), (5, .int (nI (txI t))), (6, .long acc), (0, .ref B), (1, .ref b), (2, .int (nI at_)), (3, .int (nI (t.length))), (4, .int (nI h_))] [] z M := by
  intro k
  induction k using Nat.strongRecOn with
  | ind k ih =>
  intro i acc M hk_ hi hfr hs h52 hdg hjn
  obtain ⟨w1, w2, w3, w4, w5⟩ := txW_sz hW
  have hoa : 73 * txI t ≤ tx_oa (txI t) ∧ tx_oa (txI t) ≤ 292 := by unfold tx_oa; split <;> omega
  have hk : md_k B M z := hk0.mf hfr rfl rfl
  obtain ⟨-, -, -, h8, hz⟩ := id hk
  have hc : mcR M B cs := hc0.fr hfr rfl rfl
  have hB : M b = .inl (1, n, .inl f) := (hfr.1 b hbo).trans hB0
  obtain ⟨⟨fs, hO, hF⟩, hs53, hle, f1, f2, f3, f4, f5, f6, g1, g2, g3, g4, g5, g6, hX⟩ := id hc
  rw [fdB_of hO] at hs53
  refine hz_bytes hB hb8 hbz (fun hby => ?_)
  obtain ⟨q9, h9, hq9⟩ := id hdg
  refine hz_iload (pc := 20) 0 (hz_dec kX12_judgeSpending 13 rfl) rfl ?_
  refine hz_iload (pc := 22) 1 (hz_dec kX12_judgeSpending 14 rfl) rfl ?_
  refine hz_n_ge (pc := 24) (tgt := 187) (hz_dec kX12_judgeSpending 15 rfl) (by decide) (by omega) (by omega) (fun h1 => ?_) (fun h1 => ?_)
  · skip
    have e : i = txI t := by omega
    subst e
    refine hz_lconst (pc := 187) (v := 0) (hz_dec kX12_judgeSpending 100 rfl) (by decide) ?_
    refine hz_lstore (pc := 188) (i := 8) (lo2 := [(8, .long 0), (5, .int (nI (txI t))), (6, .long acc), (0, .ref B), (1, .ref b), (2, .int (nI at_)), (3, .int (nI (t.length))), (4, .int (nI h_))]) (hz_dec kX12_judgeSpending 101 rfl) (by decide) rfl ?_
    refine hz_iconst (pc := 190) (v := nI 0) (hz_dec kX12_judgeSpending 102 rfl) (by decide) ?_
    refine hz_istore (pc := 191) (i := 10) (lo2 := [(10, .int (nI 0)), (8, .long 0), (5, .int (nI (txI t))), (6, .long acc), (0, .ref B), (1, .ref b), (2, .int (nI at_)), (3, .int (nI (t.length))), (4, .int (nI h_))]) (hz_dec kX12_judgeSpending 103 rfl) (by decide) rfl ?_
    refine hz_pick (pc := 193) [0, 1, 3, 4, 5, 6, 7] rfl ?_
    exact c_js_e hk0 hc0 hB0 hb8 hbz hbo hn ht hat hW hh hcl (by rw [hjn, Nat.sub_self]; rfl) (txO t) 0 0 M rfl (by omega) hfr hs h52 rfl
  · skip
    refine hz_aloadn (pc := 27) 4 (hz_dec kX12_judgeSpending 16 rfl) rfl ?_
    refine hz_iloadn (pc := 28) 5 (hz_dec kX12_judgeSpending 17 rfl) rfl ?_
    refine hz_iload (pc := 29) 0 (hz_dec kX12_judgeSpending 18 rfl) rfl ?_
    refine hz_xS (pc := 31) (As := [.ref b, .int (nI at_), .int (nI i)]) (st := []) (hz_dec kX12_judgeSpending 19 rfl) co_X12_485 sc_X12_inputAt (c_minputAt) rfl (by decide) ⟨Nat.le_refl _, Nat.le_refl _⟩ (Nat.le_of_ble_eq_true rfl) rfl ?_
    refine hz_istore (pc := 34) (i := 9) (lo2 := [(9, .int (nI (at_ + 2 + 73 * i))), (8, .int (nI i)), (5, .int (nI (txI t))), (6, .long acc), (0, .ref B), (1, .ref b), (2, .int (nI at_)), (3, .int (nI (t.length))), (4, .int (nI h_))]) (hz_dec kX12_judgeSpending 20 rfl) (by decide) rfl ?_
    refine hz_aloadn (pc := 36) 4 (hz_dec kX12_judgeSpending 21 rfl) rfl ?_
    refine hz_aloadn (pc := 37) 5 (hz_dec kX12_judgeSpending 22 rfl) rfl ?_
    refine hz_iload (pc := 38) 0 (hz_dec kX12_judgeSpending 23 rfl) rfl ?_
    refine hz_xS (pc := 40) (As := [.ref b, .int (nI (at_ + 2 + 73 * i))]) (st := [.ref B]) (hz_dec kX12_judgeSpending 24 rfl) co_X12_330 sc_X12_longAt (c_longAt hB hb8 hbz (by omega) (by omega)) rfl (by decide) ⟨Nat.le_refl _, Nat.le_refl _⟩ (Nat.le_of_ble_eq_true rfl) rfl ?_
    refine hz_eql (pc := 43) (show _ = inId t i by rw [show at_ + 2 + 73 * i = at_ + (2 + 73 * i) by omega]; exact num_of ht (by omega)) ?_
    refine hz_aloadn (pc := 43) 5 (hz_dec kX12_judgeSpending 25 rfl) rfl ?_
    refine hz_iload (pc := 44) 0 (hz_dec kX12_judgeSpending 26 rfl) rfl ?_
    refine hz_bipush (pc := 46) (v := nI 8) (hz_dec kX12_judgeSpending 27 rfl) (by decide) ?_
    refine hz_addN (pc := 48) (hz_dec kX12_judgeSpending 28 rfl) ?_
    refine hz_bald (pc := 49) (j := (at_ + 2 + 73 * i) + 8) (hz_dec kX12_judgeSpending 29 rfl) hB hb8 hbz rfl (by omega) (by omega) ?_
    refine hz_eqi (pc := 50) (show _ = inPl t i from mb_pl (hby _ (by omega)) (by rw [show at_ + 2 + 73 * i + 8 = at_ + (2 + 73 * i + 8) by omega]; exact ht _ (by omega)) (w5 i (by omega))) ?_
    refine hz_xV (pc := 50) (a := B) (As := [.long (inId t i), .int (inPl t i)]) (st := []) (hz_dec kX12_judgeSpending 30 rfl) co_X12_488 im_X12_findCoin se_X12_findCoin rfl hO h8 (by omega) (c_mcIx hc h8 hz) rfl (by decide) ⟨Nat.le_refl _, Nat.le_refl _⟩ (Nat.le_of_ble_eq_true rfl) rfl ?_
    by_cases c : coF cs (inId t i) (inPl t i) < cs.length
    · skip
      refine hz_eqi (pc := 53) (show _ = nI (coF cs (inId t i) (inPl t i)) from if_pos c) ?_
      refine hz_istore (pc := 53) (i := 10) (lo2 := [(10, .int (nI (coF cs (inId t i) (inPl t i)))), (9, .int (nI (at_ + 2 + 73 * i))), (8, .int (nI i)), (5, .int (nI (txI t))), (6, .long acc), (0, .ref B), (1, .ref b), (2, .int (nI at_)), (3, .int (nI (t.length))), (4, .int (nI h_))]) (hz_dec kX12_judgeSpending 31 rfl) (by decide) rfl ?_
      refine hz_iload (pc := 55) 0 (hz_dec kX12_judgeSpending 32 rfl) rfl ?_
      refine hz_z_lt (pc := 57) (tgt := 88) (hz_dec kX12_judgeSpending 33 rfl) (by decide) (by omega) ?_
      refine hz_aloadn (pc := 60) 5 (hz_dec kX12_judgeSpending 34 rfl) rfl ?_
      refine hz_get (pc := 61) (v := .ref (B + 48)) (hz_dec kX12_judgeSpending 35 rfl) fo_X12_155 hO h8 (by omega) (hF.2 52 (by decide) (by decide)) ?_
      refine hz_iload (pc := 64) 0 (hz_dec kX12_judgeSpending 36 rfl) rfl ?_
      refine hz_zald (pc := 66) (j := coF cs (inId t i) (inPl t i)) (hz_dec kX12_judgeSpending 37 rfl) g6 (by omega) (by omega) rfl (by omega) (by decide) ?_
      refine hz_eqi (pc := 67) (hX (coF cs (inId t i) (inPl t i)) (by omega)).2.2.2.2.2 ?_
      refine hz_if_eq (pc := 67) (tgt := 84) (hz_dec kX12_judgeSpending 38 rfl) (by decide) (fun h4 => ?_) (fun h4 => ?_)
      · skip
        have hu9 : coUn (coL cs (coF cs (inId t i) (inPl t i))) h_ = false := coUn_r h4
        refine hz_iconst (pc := 84) (v := nI 1) (hz_dec kX12_judgeSpending 47 rfl) (by decide) ?_
        refine hz_goto (pc := 85) (tgt := 89) (hz_dec kX12_judgeSpending 48 rfl) (by decide) ?_
        refine hz_istore (pc := 89) (i := 11) (lo2 := [(11, .int (nI 1)), (10, .int (nI (coF cs (inId t i) (inPl t i)))), (9, .int (nI (at_ + 2 + 73 * i))), (8, .int (nI i)), (5, .int (nI (txI t))), (6, .long acc), (0, .ref B), (1, .ref b), (2, .int (nI at_)), (3, .int (nI (t.length))), (4, .int (nI h_))]) (hz_dec kX12_judgeSpending 50 rfl) (by decide) rfl ?_
        refine hz_iconst (pc := 91) (v := nI 0) (hz_dec kX12_judgeSpending 51 rfl) (by decide) ?_
        refine hz_istore (pc := 92) (i := 12) (lo2 := [(12, .int (nI 0)), (11, .int (nI 1)), (10, .int (nI (coF cs (inId t i) (inPl t i)))), (9, .int (nI (at_ + 2 + 73 * i))), (8, .int (nI i)), (5, .int (nI (txI t))), (6, .long acc), (0, .ref B), (1, .ref b), (2, .int (nI at_)), (3, .int (nI (t.length))), (4, .int (nI h_))]) (hz_dec kX12_judgeSpending 52 rfl) (by decide) rfl ?_
        refine hz_pick (pc := 94) [0, 1, 2, 3, 4, 5, 6, 7, 8, 9, 10, 11] rfl ?_
        refine c_js_1 hk0 hc0 hB0 hb8 hbz hbo hn ht hat hW hh hcl hfr hs h52 h1 (fun hd9 => ?_) (fun hd9 => ?_) i 0 rfl (by omega) (fun q hq => absurd hq (by omega))
        · exact ⟨by rw [jSp_v (v := 10) (x := 0) (hjn.trans (by rw [show txI t - i = (txI t - (i + 1)) + 1 by omega]; exact jIn_10 (Or.inr (Or.inr hd9)))) (by decide)], rfl, hfr, hs, h52, by rw [jSp_v (v := 10) (x := 0) (hjn.trans (by rw [show txI t - i = (txI t - (i + 1)) + 1 by omega]; exact jIn_10 (Or.inr (Or.inr hd9)))) (by decide)]; intro q; exact absurd q (by decide)⟩
        · skip
          refine hz_aloadn (pc := 146) 5 (hz_dec kX12_judgeSpending 78 rfl) rfl ?_
          refine hz_aloadn (pc := 147) 6 (hz_dec kX12_judgeSpending 79 rfl) rfl ?_
          refine hz_iload (pc := 148) 1 (hz_dec kX12_judgeSpending 80 rfl) rfl ?_
          refine hz_bipush (pc := 150) (v := nI 9) (hz_dec kX12_judgeSpending 81 rfl) (by decide) ?_
          refine hz_addN (pc := 152) (hz_dec kX12_judgeSpending 82 rfl) ?_
          refine hz_aloadn (pc := 153) 5 (hz_dec kX12_judgeSpending 83 rfl) rfl ?_
          refine hz_get (pc := 154) (v := .ref (B + 46)) (hz_dec kX12_judgeSpending 84 rfl) fo_X12_149 hO h8 (by omega) (hF.2 50 (by decide) (by decide)) ?_
          refine hz_iload (pc := 157) 0 (hz_dec kX12_judgeSpending 85 rfl) rfl ?_
          refine hz_lald (pc := 159) (j := coF cs (inId t i) (inPl t i)) (hz_dec kX12_judgeSpending 86 rfl) g4 (by omega) (by omega) rfl (by omega) (by decide) ?_
          refine hz_eql (pc := 160) (hX (coF cs (inId t i) (inPl t i)) (by omega)).2.2.2.1 ?_
          refine hz_callV (pc := 160) (a := B) (As := [.ref b, .int (nI ((at_ + 2 + 73 * i) + 9)), .long ((coL cs (coF cs (inId t i) (inPl t i))).2.2.2.1)]) (st := []) (hz_dec kX12_judgeSpending 87 rfl) co_X12_515 im_X12_isSigned se_X12_isSigned rfl hO h8 (by omega) (c_isSig (dg := dgT t) hk hs hB hb8 hbz (by omega) (by omega) (fun o ho => hbo o (by revert ho; revert o; decide)) h9 (fun j hj => ⟨hq9 j hj, dgA_le _ _⟩)) rfl (by decide) ⟨Nat.le_refl _, Nat.le_refl _⟩ (Nat.le_of_ble_eq_true rfl) rfl (fun r9 z9 M2 hp9 => ?_)
          obtain ⟨rfl, rfl, hf2, hs2, -⟩ := hp9
          refine hz_eqi (pc := 163) (show _ = hz_b (decide (sgA (lf t) (2 + 73 * i + 9) (dgT t) = (coL cs (coF cs (inId t i) (inPl t i))).2.2.2.1)) by rw [show at_ + 2 + 73 * i + 9 = at_ + (2 + 73 * i + 9) by omega, sgA_of ht (by omega)]) ?_
          have hfr2 : mfr B [59] [3, 4, 5, 6, 8, 9, 52] M0 M2 := hfr.tr ((mfr.ofl (ks := [59]) ⟨fs, hO, hF⟩ hf2 rfl).mono rfl rfl)
          have e52 : ∃ g : Nat → Int32, M2 (B + 52) = .inl (1, 400, .inl g) := by obtain ⟨g, hg⟩ := h52; exact ⟨g, (hf2.at 52 rfl).trans hg⟩
          refine hz_if_ne (pc := 163) (tgt := 169) (hz_dec kX12_judgeSpending 88 rfl) (by decide) (fun h6 => ?_) (fun h6 => ?_)
          · skip
            have hc2 : mcR M2 B cs := hc0.fr hfr2 rfl rfl
            obtain ⟨⟨fs, hO, hF⟩, hs53, hle, f1, f2, f3, f4, f5, f6, g1, g2, g3, g4, g5, g6, hX⟩ := id hc2
            rw [fdB_of hO] at hs53
            refine hz_lload (pc := 169) 4 (hz_dec kX12_judgeSpending 91 rfl) rfl ?_
            refine hz_aloadn (pc := 171) 5 (hz_dec kX12_judgeSpending 92 rfl) rfl ?_
            refine hz_get (pc := 172) (v := .ref (B + 45)) (hz_dec kX12_judgeSpending 93 rfl) fo_X12_146 hO h8 (by omega) (hF.2 49 (by decide) (by decide)) ?_
            refine hz_iload (pc := 175) 0 (hz_dec kX12_judgeSpending 94 rfl) rfl ?_
            refine hz_lald (pc := 177) (j := coF cs (inId t i) (inPl t i)) (hz_dec kX12_judgeSpending 95 rfl) g3 (by omega) (by omega) rfl (by omega) (by decide) ?_
            refine hz_eql (pc := 178) (hX (coF cs (inId t i) (inPl t i)) (by omega)).2.2.1 ?_
            refine hz_ladd (pc := 178) (hz_dec kX12_judgeSpending 96 rfl) ?_
            refine hz_lstore (pc := 179) (i := 6) (lo2 := [(6, .long ((acc) + ((coL cs (coF cs (inId t i) (inPl t i))).2.2.1))), (10, .int (nI (coF cs (inId t i) (inPl t i)))), (9, .int (nI (at_ + 2 + 73 * i))), (8, .int (nI i)), (5, .int (nI (txI t))), (0, .ref B), (1, .ref b), (2, .int (nI at_)), (3, .int (nI (t.length))), (4, .int (nI h_))]) (hz_dec kX12_judgeSpending 97 rfl) (by decide) rfl ?_
            refine hz_incN (pc := 181) (i := 8) (lo2 := [(8, .int (nI (i + 1))), (6, .long ((acc) + ((coL cs (coF cs (inId t i) (inPl t i))).2.2.1))), (10, .int (nI (coF cs (inId t i) (inPl t i)))), (9, .int (nI (at_ + 2 + 73 * i))), (5, .int (nI (txI t))), (0, .ref B), (1, .ref b), (2, .int (nI at_)), (3, .int (nI (t.length))), (4, .int (nI h_))]) 3 (hz_dec kX12_judgeSpending 98 rfl) rfl (by decide) rfl ?_
            refine hz_goto (pc := 184) (tgt := 20) (hz_dec kX12_judgeSpending 99 rfl) (by decide) ?_
            refine hz_pick (pc := 20) [0, 4, 1, 5, 6, 7, 8, 9] rfl ?_
            refine ih (txI t - (i + 1)) (by omega) (i + 1) _ M2 rfl (by omega) hfr2 hs2 e52 ⟨q9, (hf2.at 9 rfl).trans h9, hq9⟩ (hjn.trans ?_)
            rw [show txI t - i = (txI t - (i + 1)) + 1 by omega]
            exact jIn_st c hu9 hd9 (of_decide_eq_true (hz_b1 h6))
          · skip
            refine hz_bipush (pc := 166) (v := nI 11) (hz_dec kX12_judgeSpending 89 rfl) (by decide) ?_
            exact hz_iret (pc := 168) (hz_dec kX12_judgeSpending 90 rfl) rfl ⟨by rw [jSp_v (v := 11) (x := 0) (hjn.trans (by rw [show txI t - i = (txI t - (i + 1)) + 1 by omega]; exact jIn_11 c hu9 hd9 (of_decide_eq_false (hz_b0 h6)))) (by decide)], rfl, hfr2, hs2, e52, by rw [jSp_v (v := 11) (x := 0) (hjn.trans (by rw [show txI t - i = (txI t - (i + 1)) + 1 by omega]; exact jIn_11 c hu9 hd9 (of_decide_eq_false (hz_b0 h6)))) (by decide)]; intro q; exact absurd q (by decide)⟩
      · skip
        refine hz_aloadn (pc := 70) 5 (hz_dec kX12_judgeSpending 39 rfl) rfl ?_
        refine hz_get (pc := 71) (v := .ref (B + 47)) (hz_dec kX12_judgeSpending 40 rfl) fo_X12_152 hO h8 (by omega) (hF.2 51 (by decide) (by decide)) ?_
        refine hz_iload (pc := 74) 0 (hz_dec kX12_judgeSpending 41 rfl) rfl ?_
        refine hz_iald (pc := 76) (j := coF cs (inId t i) (inPl t i)) (hz_dec kX12_judgeSpending 42 rfl) g5 (by omega) (by omega) rfl (by omega) (by decide) ?_
        refine hz_eqi (pc := 77) (hX (coF cs (inId t i) (inPl t i)) (by omega)).2.2.2.2.1 ?_
        refine hz_iload (pc := 77) 9 (hz_dec kX12_judgeSpending 43 rfl) rfl ?_
        refine hz_iconst (pc := 79) (v := nI 4) (hz_dec kX12_judgeSpending 44 rfl) (by decide) ?_
        refine hz_isub (pc := 80) (hz_dec kX12_judgeSpending 45 rfl) ?_
        have hch := hcl (coF cs (inId t i) (inPl t i)) c
        refine hz_icmp_gt (pc := 81) (tgt := 88) (hz_dec kX12_judgeSpending 46 rfl) (by decide) (fun h5 => ?_) (fun h5 => ?_)
        · skip
          refine hz_iconst (pc := 88) (v := nI 0) (hz_dec kX12_judgeSpending 49 rfl) (by decide) ?_
          refine hz_istore (pc := 89) (i := 11) (lo2 := [(11, .int (nI 0)), (10, .int (nI (coF cs (inId t i) (inPl t i)))), (9, .int (nI (at_ + 2 + 73 * i))), (8, .int (nI i)), (5, .int (nI (txI t))), (6, .long acc), (0, .ref B), (1, .ref b), (2, .int (nI at_)), (3, .int (nI (t.length))), (4, .int (nI h_))]) (hz_dec kX12_judgeSpending 50 rfl) (by decide) rfl ?_
          refine hz_iconst (pc := 91) (v := nI 0) (hz_dec kX12_judgeSpending 51 rfl) (by decide) ?_
          refine hz_istore (pc := 92) (i := 12) (lo2 := [(12, .int (nI 0)), (11, .int (nI 0)), (10, .int (nI (coF cs (inId t i) (inPl t i)))), (9, .int (nI (at_ + 2 + 73 * i))), (8, .int (nI i)), (5, .int (nI (txI t))), (6, .long acc), (0, .ref B), (1, .ref b), (2, .int (nI at_)), (3, .int (nI (t.length))), (4, .int (nI h_))]) (hz_dec kX12_judgeSpending 52 rfl) (by decide) rfl ?_
          refine hz_pick (pc := 94) [0, 1, 4] rfl ?_
          exact c_js_0 (by omega) (by omega) ⟨by rw [jSp_v (v := 10) (x := 0) (hjn.trans (by rw [show txI t - i = (txI t - (i + 1)) + 1 by omega]; exact jIn_10 (Or.inr (Or.inl (coUn_t h4 (Nat.lt_of_not_le (fun r => Int32.not_le.mpr h5 ((ht_le hch hh).mpr r)))))))) (by decide)], rfl, hfr, hs, h52, by rw [jSp_v (v := 10) (x := 0) (hjn.trans (by rw [show txI t - i = (txI t - (i + 1)) + 1 by omega]; exact jIn_10 (Or.inr (Or.inl (coUn_t h4 (Nat.lt_of_not_le (fun r => Int32.not_le.mpr h5 ((ht_le hch hh).mpr r)))))))) (by decide)]; intro q; exact absurd q (by decide)⟩
        · skip
          have hu9 : coUn (coL cs (coF cs (inId t i) (inPl t i))) h_ = false := coUn_f (by have q := (ht_le hch hh).mp (Int32.not_lt.mp h5); omega)
          refine hz_iconst (pc := 84) (v := nI 1) (hz_dec kX12_judgeSpending 47 rfl) (by decide) ?_
          refine hz_goto (pc := 85) (tgt := 89) (hz_dec kX12_judgeSpending 48 rfl) (by decide) ?_
          refine hz_istore (pc := 89) (i := 11) (lo2 := [(11, .int (nI 1)), (10, .int (nI (coF cs (inId t i) (inPl t i)))), (9, .int (nI (at_ + 2 + 73 * i))), (8, .int (nI i)), (5, .int (nI (txI t))), (6, .long acc), (0, .ref B), (1, .ref b), (2, .int (nI at_)), (3, .int (nI (t.length))), (4, .int (nI h_))]) (hz_dec kX12_judgeSpending 50 rfl) (by decide) rfl ?_
          refine hz_iconst (pc := 91) (v := nI 0) (hz_dec kX12_judgeSpending 51 rfl) (by decide) ?_
          refine hz_istore (pc := 92) (i := 12) (lo2 := [(12, .int (nI 0)), (11, .int (nI 1)), (10, .int (nI (coF cs (inId t i) (inPl t i)))), (9, .int (nI (at_ + 2 + 73 * i))), (8, .int (nI i)), (5, .int (nI (txI t))), (6, .long acc), (0, .ref B), (1, .ref b), (2, .int (nI at_)), (3, .int (nI (t.length))), (4, .int (nI h_))]) (hz_dec kX12_judgeSpending 52 rfl) (by decide) rfl ?_
          refine hz_pick (pc := 94) [0, 1, 2, 3, 4, 5, 6, 7, 8, 9, 10, 11] rfl ?_
          refine c_js_1 hk0 hc0 hB0 hb8 hbz hbo hn ht hat hW hh hcl hfr hs h52 h1 (fun hd9 => ?_) (fun hd9 => ?_) i 0 rfl (by omega) (fun q hq => absurd hq (by omega))
          · exact ⟨by rw [jSp_v (v := 10) (x := 0) (hjn.trans (by rw [show txI t - i = (txI t - (i + 1)) + 1 by omega]; exact jIn_10 (Or.inr (Or.inr hd9)))) (by decide)], rfl, hfr, hs, h52, by rw [jSp_v (v := 10) (x := 0) (hjn.trans (by rw [show txI t - i = (txI t - (i + 1)) + 1 by omega]; exact jIn_10 (Or.inr (Or.inr hd9)))) (by decide)]; intro q; exact absurd q (by decide)⟩
          · skip
            refine hz_aloadn (pc := 146) 5 (hz_dec kX12_judgeSpending 78 rfl) rfl ?_
            refine hz_aloadn (pc := 147) 6 (hz_dec kX12_judgeSpending 79 rfl) rfl ?_
            refine hz_iload (pc := 148) 1 (hz_dec kX12_judgeSpending 80 rfl) rfl ?_
            refine hz_bipush (pc := 150) (v := nI 9) (hz_dec kX12_judgeSpending 81 rfl) (by decide) ?_
            refine hz_addN (pc := 152) (hz_dec kX12_judgeSpending 82 rfl) ?_
            refine hz_aloadn (pc := 153) 5 (hz_dec kX12_judgeSpending 83 rfl) rfl ?_
            refine hz_get (pc := 154) (v := .ref (B + 46)) (hz_dec kX12_judgeSpending 84 rfl) fo_X12_149 hO h8 (by omega) (hF.2 50 (by decide) (by decide)) ?_
            refine hz_iload (pc := 157) 0 (hz_dec kX12_judgeSpending 85 rfl) rfl ?_
            refine hz_lald (pc := 159) (j := coF cs (inId t i) (inPl t i)) (hz_dec kX12_judgeSpending 86 rfl) g4 (by omega) (by omega) rfl (by omega) (by decide) ?_
            refine hz_eql (pc := 160) (hX (coF cs (inId t i) (inPl t i)) (by omega)).2.2.2.1 ?_
            refine hz_callV (pc := 160) (a := B) (As := [.ref b, .int (nI ((at_ + 2 + 73 * i) + 9)), .long ((coL cs (coF cs (inId t i) (inPl t i))).2.2.2.1)]) (st := []) (hz_dec kX12_judgeSpending 87 rfl) co_X12_515 im_X12_isSigned se_X12_isSigned rfl hO h8 (by omega) (c_isSig (dg := dgT t) hk hs hB hb8 hbz (by omega) (by omega) (fun o ho => hbo o (by revert ho; revert o; decide)) h9 (fun j hj => ⟨hq9 j hj, dgA_le _ _⟩)) rfl (by decide) ⟨Nat.le_refl _, Nat.le_refl _⟩ (Nat.le_of_ble_eq_true rfl) rfl (fun r9 z9 M2 hp9 => ?_)
            obtain ⟨rfl, rfl, hf2, hs2, -⟩ := hp9
            refine hz_eqi (pc := 163) (show _ = hz_b (decide (sgA (lf t) (2 + 73 * i + 9) (dgT t) = (coL cs (coF cs (inId t i) (inPl t i))).2.2.2.1)) by rw [show at_ + 2 + 73 * i + 9 = at_ + (2 + 73 * i + 9) by omega, sgA_of ht (by omega)]) ?_
            have hfr2 : mfr B [59] [3, 4, 5, 6, 8, 9, 52] M0 M2 := hfr.tr ((mfr.ofl (ks := [59]) ⟨fs, hO, hF⟩ hf2 rfl).mono rfl rfl)
            have e52 : ∃ g : Nat → Int32, M2 (B + 52) = .inl (1, 400, .inl g) := by obtain ⟨g, hg⟩ := h52; exact ⟨g, (hf2.at 52 rfl).trans hg⟩
            refine hz_if_ne (pc := 163) (tgt := 169) (hz_dec kX12_judgeSpending 88 rfl) (by decide) (fun h6 => ?_) (fun h6 => ?_)
            · skip
              have hc2 : mcR M2 B cs := hc0.fr hfr2 rfl rfl
              obtain ⟨⟨fs, hO, hF⟩, hs53, hle, f1, f2, f3, f4, f5, f6, g1, g2, g3, g4, g5, g6, hX⟩ := id hc2
              rw [fdB_of hO] at hs53
              refine hz_lload (pc := 169) 4 (hz_dec kX12_judgeSpending 91 rfl) rfl ?_
              refine hz_aloadn (pc := 171) 5 (hz_dec kX12_judgeSpending 92 rfl) rfl ?_
              refine hz_get (pc := 172) (v := .ref (B + 45)) (hz_dec kX12_judgeSpending 93 rfl) fo_X12_146 hO h8 (by omega) (hF.2 49 (by decide) (by decide)) ?_
              refine hz_iload (pc := 175) 0 (hz_dec kX12_judgeSpending 94 rfl) rfl ?_
              refine hz_lald (pc := 177) (j := coF cs (inId t i) (inPl t i)) (hz_dec kX12_judgeSpending 95 rfl) g3 (by omega) (by omega) rfl (by omega) (by decide) ?_
              refine hz_eql (pc := 178) (hX (coF cs (inId t i) (inPl t i)) (by omega)).2.2.1 ?_
              refine hz_ladd (pc := 178) (hz_dec kX12_judgeSpending 96 rfl) ?_
              refine hz_lstore (pc := 179) (i := 6) (lo2 := [(6, .long ((acc) + ((coL cs (coF cs (inId t i) (inPl t i))).2.2.1))), (10, .int (nI (coF cs (inId t i) (inPl t i)))), (9, .int (nI (at_ + 2 + 73 * i))), (8, .int (nI i)), (5, .int (nI (txI t))), (0, .ref B), (1, .ref b), (2, .int (nI at_)), (3, .int (nI (t.length))), (4, .int (nI h_))]) (hz_dec kX12_judgeSpending 97 rfl) (by decide) rfl ?_
              refine hz_incN (pc := 181) (i := 8) (lo2 := [(8, .int (nI (i + 1))), (6, .long ((acc) + ((coL cs (coF cs (inId t i) (inPl t i))).2.2.1))), (10, .int (nI (coF cs (inId t i) (inPl t i)))), (9, .int (nI (at_ + 2 + 73 * i))), (5, .int (nI (txI t))), (0, .ref B), (1, .ref b), (2, .int (nI at_)), (3, .int (nI (t.length))), (4, .int (nI h_))]) 3 (hz_dec kX12_judgeSpending 98 rfl) rfl (by decide) rfl ?_
              refine hz_goto (pc := 184) (tgt := 20) (hz_dec kX12_judgeSpending 99 rfl) (by decide) ?_
              refine hz_pick (pc := 20) [0, 4, 1, 5, 6, 7, 8, 9] rfl ?_
              refine ih (txI t - (i + 1)) (by omega) (i + 1) _ M2 rfl (by omega) hfr2 hs2 e52 ⟨q9, (hf2.at 9 rfl).trans h9, hq9⟩ (hjn.trans ?_)
              rw [show txI t - i = (txI t - (i + 1)) + 1 by omega]
              exact jIn_st c hu9 hd9 (of_decide_eq_true (hz_b1 h6))
            · skip
              refine hz_bipush (pc := 166) (v := nI 11) (hz_dec kX12_judgeSpending 89 rfl) (by decide) ?_
              exact hz_iret (pc := 168) (hz_dec kX12_judgeSpending 90 rfl) rfl ⟨by rw [jSp_v (v := 11) (x := 0) (hjn.trans (by rw [show txI t - i = (txI t - (i + 1)) + 1 by omega]; exact jIn_11 c hu9 hd9 (of_decide_eq_false (hz_b0 h6)))) (by decide)], rfl, hfr2, hs2, e52, by rw [jSp_v (v := 11) (x := 0) (hjn.trans (by rw [show txI t - i = (txI t - (i + 1)) + 1 by omega]; exact jIn_11 c hu9 hd9 (of_decide_eq_false (hz_b0 h6)))) (by decide)]; intro q; exact absurd q (by decide)⟩
    · skip
      refine hz_eqi (pc := 53) (show _ = (-1 : Int32) from if_neg c) ?_
      refine hz_istore (pc := 53) (i := 10) (lo2 := [(10, .int (-1)), (9, .int (nI (at_ + 2 + 73 * i))), (8, .int (nI i)), (5, .int (nI (txI t))), (6, .long acc), (0, .ref B), (1, .ref b), (2, .int (nI at_)), (3, .int (nI (t.length))), (4, .int (nI h_))]) (hz_dec kX12_judgeSpending 31 rfl) (by decide) rfl ?_
      refine hz_iload (pc := 55) 0 (hz_dec kX12_judgeSpending 32 rfl) rfl ?_
      refine hz_if_lt (pc := 57) (tgt := 88) (hz_dec kX12_judgeSpending 33 rfl) (by decide) (fun h2 => ?_) (fun h2 => ?_)
      · skip
        refine hz_iconst (pc := 88) (v := nI 0) (hz_dec kX12_judgeSpending 49 rfl) (by decide) ?_
        refine hz_istore (pc := 89) (i := 11) (lo2 := [(11, .int (nI 0)), (10, .int (-1)), (9, .int (nI (at_ + 2 + 73 * i))), (8, .int (nI i)), (5, .int (nI (txI t))), (6, .long acc), (0, .ref B), (1, .ref b), (2, .int (nI at_)), (3, .int (nI (t.length))), (4, .int (nI h_))]) (hz_dec kX12_judgeSpending 50 rfl) (by decide) rfl ?_
        refine hz_iconst (pc := 91) (v := nI 0) (hz_dec kX12_judgeSpending 51 rfl) (by decide) ?_
        refine hz_istore (pc := 92) (i := 12) (lo2 := [(12, .int (nI 0)), (11, .int (nI 0)), (10, .int (-1)), (9, .int (nI (at_ + 2 + 73 * i))), (8, .int (nI i)), (5, .int (nI (txI t))), (6, .long acc), (0, .ref B), (1, .ref b), (2, .int (nI at_)), (3, .int (nI (t.length))), (4, .int (nI h_))]) (hz_dec kX12_judgeSpending 52 rfl) (by decide) rfl ?_
        refine hz_pick (pc := 94) [0, 1, 4] rfl ?_
        exact c_js_0 (by omega) (by omega) ⟨by rw [jSp_v (v := 10) (x := 0) (hjn.trans (by rw [show txI t - i = (txI t - (i + 1)) + 1 by omega]; exact jIn_10 (Or.inl c))) (by decide)], rfl, hfr, hs, h52, by rw [jSp_v (v := 10) (x := 0) (hjn.trans (by rw [show txI t - i = (txI t - (i + 1)) + 1 by omega]; exact jIn_10 (Or.inl c))) (by decide)]; intro q; exact absurd q (by decide)⟩
      · skip
        exact absurd (by decide) h2
set_option maxHeartbeats 4000000 in
set_option maxRecDepth 100000 in
theorem c_jSpend {κ : hz_C} {z : Nat} {M : hz_M} {B : Nat} (hk0 : md_k B M z) {cs : List co_C} (hc0 : mcR M B cs) {b n at_ : Nat} {f : Nat → Int32} {t : by_L} (hB0 : M b = .inl (1, n, .inl f)) (hb8 : 8 ≤ b) (hbz : b < z) (hbo : ∀ o ∈ (0 :: [3, 4, 5, 6, 8, 9, 52]), b ≠ B + o) (hn : n < 2 ^ 24) (ht : isA f at_ t) (hat : at_ + t.length ≤ n) (hW : txW t) {h_ : Nat} (hh : h_ < 100000) (hcl : ∀ k, k < cs.length → (coL cs k).2.2.2.2.1 < 100000) (hs : md_s B M) (h52 : ∃ g : Nat → Int32, M (B + 52) = .inl (1, 400, .inl g)) : hz_Mt κ xX12_judgeSpending 7 0 0 [.ref B, .ref b, .int (nI at_), .int (nI t.length), .int (nI h_)] z M (fun r z2 M2 => some (.int (nI (jSp cs t h_).1)) = r ∧ z = z2 ∧ mfr B [59] [3, 4, 5, 6, 8, 9, 52] M M2 ∧ md_s B M2 ∧ (∃ g : Nat → Int32, M2 (B + 52) = .inl (1, 400, .inl g)) ∧ ((jSp cs t h_).1 = 0 → fdB M2 B 59 = some (.long (jSp cs t h_).2))) := by
  refine hz_ent (lo := [(0, .ref B), (1, .ref b), (2, .int (nI at_)), (3, .int (nI (t.length))), (4, .int (nI h_))]) (by decide) (Nat.le_of_ble_eq_true rfl) rfl ?_
  obtain ⟨w1, w2, w3, w4, w5⟩ := txW_sz hW
  have hoa : 73 * txI t ≤ tx_oa (txI t) ∧ tx_oa (txI t) ≤ 292 := by unfold tx_oa; split <;> omega
  obtain ⟨⟨fs, hO, hF⟩, -, -, h8, hz⟩ := id hk0
  refine hz_bytes hB0 hb8 hbz (fun hby => ?_)
  obtain ⟨g52, hg52⟩ := id h52
  have hf0 : f at_ = nI (txI t) := mb_bb (hby _ (by omega)) (by rw [show at_ = at_ + 0 from rfl, ht 0 (by omega)]; rfl) (by omega)
  refine hz_aloadn (pc := 0) 1 (hz_dec kX12_judgeSpending 0 rfl) rfl ?_
  refine hz_iloadn (pc := 1) 2 (hz_dec kX12_judgeSpending 1 rfl) rfl ?_
  refine hz_xS (pc := 2) (As := [.ref b, .int (nI at_)]) (st := []) (hz_dec kX12_judgeSpending 2 rfl) co_X12_482 sc_X12_inputsOf (c_minputsOf hB0 hb8 hbz (by omega) (by omega)) rfl (by decide) ⟨Nat.le_refl _, Nat.le_refl _⟩ (Nat.le_of_ble_eq_true rfl) rfl ?_
  refine hz_eqi (pc := 5) hf0 ?_
  refine hz_istore (pc := 5) (i := 5) (lo2 := [(5, .int (nI (txI t))), (0, .ref B), (1, .ref b), (2, .int (nI at_)), (3, .int (nI (t.length))), (4, .int (nI h_))]) (hz_dec kX12_judgeSpending 3 rfl) (by decide) rfl ?_
  refine hz_aloadn (pc := 7) 1 (hz_dec kX12_judgeSpending 4 rfl) rfl ?_
  refine hz_aloadn (pc := 8) 2 (hz_dec kX12_judgeSpending 5 rfl) rfl ?_
  refine hz_iloadn (pc := 9) 3 (hz_dec kX12_judgeSpending 6 rfl) rfl ?_
  refine hz_iloadn (pc := 10) 4 (hz_dec kX12_judgeSpending 7 rfl) rfl ?_
  refine hz_callV (pc := 11) (a := B) (As := [.ref b, .int (nI at_), .int (nI (t.length))]) (st := []) (hz_dec kX12_judgeSpending 8 rfl) co_X12_512 im_X12_digitsOf se_X12_digitsOf rfl hO h8 (by omega) (c_digitsOf (s := t.length) (n := txI t) hk0 hs hB0 hb8 hbz (by omega) (by omega) (by omega) (by omega) (by omega) hf0 hg52 (hbo 52 (by decide))) rfl (by decide) ⟨Nat.le_refl _, Nat.le_refl _⟩ (Nat.le_of_ble_eq_true rfl) rfl (fun r9 z9 M1 hp9 => ?_)
  obtain ⟨rfl, rfl, hf1, hs1, ⟨q9, h9, hq9⟩, g1, hg1⟩ := hp9
  refine hz_lconst (pc := 14) (v := 0) (hz_dec kX12_judgeSpending 9 rfl) (by decide) ?_
  refine hz_lstore (pc := 15) (i := 6) (lo2 := [(6, .long 0), (5, .int (nI (txI t))), (0, .ref B), (1, .ref b), (2, .int (nI at_)), (3, .int (nI (t.length))), (4, .int (nI h_))]) (hz_dec kX12_judgeSpending 10 rfl) (by decide) rfl ?_
  refine hz_iconst (pc := 17) (v := nI 0) (hz_dec kX12_judgeSpending 11 rfl) (by decide) ?_
  refine hz_istore (pc := 18) (i := 8) (lo2 := [(8, .int (nI 0)), (6, .long 0), (5, .int (nI (txI t))), (0, .ref B), (1, .ref b), (2, .int (nI at_)), (3, .int (nI (t.length))), (4, .int (nI h_))]) (hz_dec kX12_judgeSpending 12 rfl) (by decide) rfl ?_
  refine hz_pick (pc := 20) [0, 2, 1, 3, 4, 5, 6, 7] rfl ?_
  refine c_js_l hk0 hc0 hB0 hb8 hbz hbo hn ht hat hW hh hcl (txI t) 0 0 M1 rfl (by omega) ((mfr.ofl (ks := [59]) ⟨fs, hO, hF⟩ hf1 rfl).mono rfl rfl) hs1 ⟨g1, hg1⟩ ⟨q9, h9, fun j hj => ?_⟩ rfl
  rw [hq9 j hj, dgT_of ht rfl rfl]
  rfl
