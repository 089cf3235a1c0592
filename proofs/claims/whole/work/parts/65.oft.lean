/-! Judge.ofTransaction -/
/-- the judge's object -/
def juO (M : hz_M) (bf : Int32) (fe : Int64) : Prop := M 25 = .inr (3, [.ref 9, .ref 13, .ref 20, .ref 26, .ref 34, .ref 35, .ref 36, .ref 37, .ref 38, .int bf, .long fe])
theorem frl.S0 {os : List Nat} {lo hi : Nat} {S : List (Nat × Nat)} {M M2 : hz_M} (h : frl 0 os M M2) (e : os.all (fun o => decide (lo ≤ o ∧ o < hi)) = true) : frS ((lo, hi) :: S) M M2 := h.toS (fun o ho q => by
  have r := of_decide_eq_true (List.all_eq_true.mp e o ho)
  have q2 := q.1
  simp only at q2
  omega)
theorem frS.at1 {lo hi q : Nat} {M M2 : hz_M} (h : frS [(lo, hi)] M M2) (e : q < lo ∨ hi ≤ q) : M2 q = M q := h q (show (q < lo ∨ hi ≤ q) ∧ True from ⟨e, trivial⟩)
theorem frS.at2 {lo hi lo2 hi2 q : Nat} {M M2 : hz_M} (h : frS [(lo, hi), (lo2, hi2)] M M2) (e : (q < lo ∨ hi ≤ q) ∧ (q < lo2 ∨ hi2 ≤ q)) : M2 q = M q := h q (show (q < lo ∨ hi ≤ q) ∧ (q < lo2 ∨ hi2 ≤ q) ∧ True from ⟨e.1, e.2, trivial⟩)
theorem ck_k.fs {z : Nat} {M M2 : hz_M} (h : ck_k M z) (e9 : M2 9 = M 9) (e13 : M2 13 = M 13) : ck_k M2 z := ⟨e9.trans h.1, e13.trans h.2.1, h.2.2⟩
theorem sgA_of {f : Nat → Int32} {a i : Nat} {t : by_L} {dg : Nat → Nat} (h : isA f a t) (hi : i + 64 ≤ t.length) : sgA f (a + i) dg = sgA (lf t) i dg := by
  unfold sgA
  refine ky_ad_c (fun j hj => ?_)
  rw [Nat.add_assoc, num_of h (by omega)]
theorem sgA_c {f : Nat → Int32} {a : Nat} {d1 d2 : Nat → Nat} (h : ∀ j, j < 8 → d1 j = d2 j) : sgA f a d1 = sgA f a d2 := by
  unfold sgA
  refine ky_ad_c (fun j hj => ?_)
  rw [h j hj]
theorem dgT_of {f : Nat → Int32} {a n s : Nat} {t : by_L} (h : isA f a t) (hs : t.length = s) (hn : txI t = n) : sh_h (sgB f a n) 0 s = sh_h (sgB (lf t) 0 (txI t)) 0 t.length := by
  subst hs; subst hn
  refine sh_h_c (fun i hi => ?_)
  rw [Nat.zero_add]
  unfold sgB
  split
  · rfl
  · rw [h i hi, Nat.zero_add]
theorem dupI_of {f : Nat → Int32} {a k b : Nat} {t : by_L} (h : isA f a t) (hk : 2 + 73 * k + 9 ≤ t.length) (hb : b = a + (2 + 73 * k)) : dupF f f a b k = dupI t k := by
  subst hb
  unfold dupI
  refine dupF_c k (fun j hj => ?_) (fun j hj => ?_)
  · rw [h j (by omega), Nat.zero_add]
  · rw [Nat.add_assoc, h _ (by omega)]
theorem ck_s.up25 {M : hz_M} {e : va_E} (h : ck_s M) : ck_s (va_up M 25 e) := by
  obtain ⟨⟨v10, h10⟩, ⟨u11, h11⟩, ⟨d12, h12⟩, ⟨p14, h14⟩, ⟨q15, h15⟩, ⟨q16, h16⟩, ⟨q17, h17⟩, ⟨q18, h18⟩, ⟨q19, h19⟩⟩ := h
  exact ⟨⟨v10, hz_mne h10 (by decide)⟩, ⟨u11, hz_mne h11 (by decide)⟩, ⟨d12, hz_mne h12 (by decide)⟩, ⟨p14, hz_mne h14 (by decide)⟩, ⟨q15, hz_mne h15 (by decide)⟩, ⟨q16, hz_mne h16 (by decide)⟩, ⟨q17, hz_mne h17 (by decide)⟩, ⟨q18, hz_mne h18 (by decide)⟩, ⟨q19, hz_mne h19 (by decide)⟩⟩
theorem ck_s.up14 {M : hz_M} {p : Nat → Int64} (h : ck_s M) : ck_s (va_up M 14 (.inl (2, 8, .inr (.inl p)))) := by
  obtain ⟨⟨v10, h10⟩, ⟨u11, h11⟩, ⟨d12, h12⟩, -, ⟨q15, h15⟩, ⟨q16, h16⟩, ⟨q17, h17⟩, ⟨q18, h18⟩, ⟨q19, h19⟩⟩ := h
  exact ⟨⟨v10, hz_mne h10 (by decide)⟩, ⟨u11, hz_mne h11 (by decide)⟩, ⟨d12, hz_mne h12 (by decide)⟩, ⟨p, va_up_self _ _ _⟩, ⟨q15, hz_mne h15 (by decide)⟩, ⟨q16, hz_mne h16 (by decide)⟩, ⟨q17, hz_mne h17 (by decide)⟩, ⟨q18, hz_mne h18 (by decide)⟩, ⟨q19, hz_mne h19 (by decide)⟩⟩
theorem jSp_v {cs : List co_C} {t : by_L} {h v : Nat} {x : Int64} (e : jIn cs t h (txI t) 0 0 = (v, x)) (hv : ¬ v = 0) : jSp cs t h = (v, 0) := by
  unfold jSp
  rw [e]
  simp only [if_neg hv]
theorem ht_le {c h : Nat} (hc : c < 100000) (hh : h < 100000) : nI c ≤ nI h - nI 4 ↔ c + 4 ≤ h := by
  rw [Int32.le_iff_toInt_le, Int32.toInt_sub, nI_toInt (by omega), nI_toInt (by omega), nI_toInt (by omega), Int.bmod_eq_of_le (by omega) (by omega)]
  omega
theorem coUn_r {c : co_C} {h : Nat} (q : hz_b c.2.2.2.2.2 = 0) : coUn c h = false := by unfold coUn; rw [hz_b0 q, Bool.false_and]
theorem coUn_t {c : co_C} {h : Nat} (q : ¬ hz_b c.2.2.2.2.2 = 0) (r : h < c.2.2.2.2.1 + 4) : coUn c h = true := by unfold coUn; rw [hz_b1 q, decide_eq_true r]; rfl
set_option maxHeartbeats 4000000 in
set_option maxRecDepth 100000 in
theorem c_oft_e {κ : hz_C} {z : Nat} {M0 : hz_M} (hk0 : ck_k M0 z) {a : Nat} {cs : List co_C} (hc0 : coR M0 a cs) (ha : 26 ≤ a) (hza : a + 8 ≤ z) {bf : Int32} {b n at_ : Nat} {f : Nat → Int32} {t : by_L} (hB0 : M0 b = .inl (1, n, .inl f)) (hb8 : 26 ≤ b) (hbz : b < z) (hn : n < 2 ^ 24) (ht : isA f at_ t) (hat : at_ + t.length ≤ n) (hW : txW t) {h_ : Nat} (hh : h_ < 100000) (hcl : ∀ k, k < cs.length → (coL cs k).2.2.2.2.1 < 100000) {iD : Int64} (hid : iD = idS t) {M : hz_M} (hfr : frS [(9, 20), (25, 26)] M0 M) (hk : ck_k M z) (hs : ck_s M) {fe : Int64} (hj : juO M bf fe) {acc : Int64} (hjn : jIn cs t h_ (txI t) 0 0 = (0, acc)) : hz_W κ xX3_ofTransaction 3 0 0 (fun r z2 M2 => some (.int (nI (jSp cs t h_).1)) = r ∧ z = z2 ∧ frS [(9, 20), (25, 26)] M0 M2 ∧ ck_k M2 z ∧ ck_s M2 ∧ ∃ fe, juO M2 bf fe ∧ ((jSp cs t h_).1 = 0 → fe = (jSp cs t h_).2)) 0 0 179 [(9, .long acc), (0, .ref 25), (1, .ref a), (2, .ref b), (3, .int (nI at_)), (4, .int (nI (t.length))), (5, .long iD), (7, .int (nI h_))] [] z M := by
  obtain ⟨w1, w2, w3, w4, w5⟩ := txW_sz hW
  obtain ⟨-, -, hz63⟩ := id hk0
  have hc : coR M a cs := hc0.fr (fun q h1 h2 => hfr.at2 (by omega))
  have hB : M b = .inl (1, n, .inl f) := (hfr.at2 (by omega)).trans hB0
  have e1 : (jIn cs t h_ (txI t) 0 0).1 = 0 := by rw [hjn]
  have e2 : (jIn cs t h_ (txI t) 0 0).2 = acc := by rw [hjn]
  unfold jSp
  rw [if_pos e1, e2]
  obtain ⟨hO, hle, ⟨f7, h7⟩, f1, f2, f3, f4, f5, f6, g1, g2, g3, g4, g5, g6, hX⟩ := id hc
  refine hz_aloadn (pc := 179) 3 (hz_dec kX3_ofTransaction 93 rfl) rfl ?_
  refine hz_iloadn (pc := 180) 4 (hz_dec kX3_ofTransaction 94 rfl) rfl ?_
  refine hz_xS (pc := 181) (As := [.ref b, .int (nI at_)]) (st := []) (hz_dec kX3_ofTransaction 95 rfl) co_X3_154 sc_X0_paidBy (c_paid hB (by omega) hbz (by omega) ht hat hW) rfl (by decide) ⟨Nat.le_refl _, Nat.le_refl _⟩ (Nat.le_of_ble_eq_true rfl) rfl ?_
  refine hz_lstore (pc := 184) (i := 11) (lo2 := [(11, .long (paV (paS t))), (9, .long acc), (0, .ref 25), (1, .ref a), (2, .ref b), (3, .int (nI at_)), (4, .int (nI (t.length))), (5, .long iD), (7, .int (nI h_))]) (hz_dec kX3_ofTransaction 96 rfl) (by decide) rfl ?_
  refine hz_lload (pc := 186) 0 (hz_dec kX3_ofTransaction 97 rfl) rfl ?_
  refine hz_lconst (pc := 188) (v := 0) (hz_dec kX3_ofTransaction 98 rfl) (by decide) ?_
  refine hz_lcmp (pc := 189) (hz_dec kX3_ofTransaction 99 rfl) ?_
  refine hz_if_lt (pc := 190) (tgt := 201) (hz_dec kX3_ofTransaction 100 rfl) (by decide) (fun h1 => ?_) (fun h1 => ?_)
  · skip
    refine hz_bipush (pc := 201) (v := nI 12) (hz_dec kX3_ofTransaction 105 rfl) (by decide) ?_
    refine hz_iret (pc := 203) (hz_dec kX3_ofTransaction 106 rfl) rfl ⟨?_, rfl, hfr, hk, hs, fe, hj, ?_⟩
    · rw [if_pos (Or.inl ((paV_neg w3).mp ((lg_cmp_lt _ _).mp h1)))]
    · rw [if_pos (Or.inl ((paV_neg w3).mp ((lg_cmp_lt _ _).mp h1)))]; intro q; exact absurd q (by decide)
  · skip
    refine hz_lload (pc := 193) 0 (hz_dec kX3_ofTransaction 101 rfl) rfl ?_
    refine hz_lload (pc := 195) 1 (hz_dec kX3_ofTransaction 102 rfl) rfl ?_
    refine hz_lcmp (pc := 197) (hz_dec kX3_ofTransaction 103 rfl) ?_
    refine hz_if_le (pc := 198) (tgt := 204) (hz_dec kX3_ofTransaction 104 rfl) (by decide) (fun h2 => ?_) (fun h2 => ?_)
    · skip
      have c9 : ¬ (paS t = none ∨ acc < paV (paS t)) := fun q => q.elim (fun q => h1 ((lg_cmp_lt _ _).mpr ((paV_neg w3).mpr q))) (fun q => Int64.not_lt.mpr ((lg_cmp_le _ _).mp h2) q)
      rw [if_neg c9]
      refine hz_aloadn (pc := 204) 2 (hz_dec kX3_ofTransaction 107 rfl) rfl ?_
      refine hz_lload (pc := 205) 1 (hz_dec kX3_ofTransaction 108 rfl) rfl ?_
      refine hz_lload (pc := 207) 0 (hz_dec kX3_ofTransaction 109 rfl) rfl ?_
      refine hz_lsub (pc := 209) (hz_dec kX3_ofTransaction 110 rfl) ?_
      refine hz_putl (pc := 210) (hz_dec kX3_ofTransaction 111 rfl) fo_X3_146 ft_X3_10 hj (by decide) (by omega) (Nat.le_of_ble_eq_true rfl) ?_
      refine hz_mem (pc := 213) (M2 := (va_up M 25 (.inr (3, [.ref 9, .ref 13, .ref 20, .ref 26, .ref 34, .ref 35, .ref 36, .ref 37, .ref 38, .int bf, .long ((acc) - (paV (paS t)))])))) rfl ?_
      refine hz_aloadn (pc := 213) 3 (hz_dec kX3_ofTransaction 112 rfl) rfl ?_
      refine hz_lload (pc := 214) 7 (hz_dec kX3_ofTransaction 113 rfl) rfl ?_
      have hcA : coR (va_up M 25 (.inr (3, [.ref 9, .ref 13, .ref 20, .ref 26, .ref 34, .ref 35, .ref 36, .ref 37, .ref 38, .int bf, .long ((acc) - (paV (paS t)))]))) a cs := hc.fr (fun q h1 h2 => va_up_ne _ _ (by omega))
      refine hz_xV (pc := 216) (a := a) (As := [.long iD]) (st := []) (hz_dec kX3_ofTransaction 114 rfl) co_X3_158 im_X1_holds se_X1_holds rfl (hz_mne hO (by omega)) (by omega) (by omega) (c_coHs hcA (by omega) hza) rfl (by decide) ⟨Nat.le_refl _, Nat.le_refl _⟩ (Nat.le_of_ble_eq_true rfl) rfl ?_
      refine hz_if_eq (pc := 219) (tgt := 227) (hz_dec kX3_ofTransaction 115 rfl) (by decide) (fun h3 => ?_) (fun h3 => ?_)
      · skip
        refine hz_iconst (pc := 227) (v := nI 0) (hz_dec kX3_ofTransaction 118 rfl) (by decide) ?_
        refine hz_iret (pc := 228) (hz_dec kX3_ofTransaction 119 rfl) rfl ⟨?_, rfl, hfr.upr (by simp only [outS, and_true]; omega), hk.fs (va_up_ne _ _ (by decide)) (va_up_ne _ _ (by decide)), hs.up25, _, va_up_self _ _ _, ?_⟩
        · rw [if_neg (by rw [← hid, hz_b0 h3]; decide)]
        · rw [if_neg (by rw [← hid, hz_b0 h3]; decide)]; intro _; rfl
      · skip
        refine hz_bipush (pc := 222) (v := nI 13) (hz_dec kX3_ofTransaction 116 rfl) (by decide) ?_
        refine hz_goto (pc := 224) (tgt := 228) (hz_dec kX3_ofTransaction 117 rfl) (by decide) ?_
        refine hz_iret (pc := 228) (hz_dec kX3_ofTransaction 119 rfl) rfl ⟨?_, rfl, hfr.upr (by simp only [outS, and_true]; omega), hk.fs (va_up_ne _ _ (by decide)) (va_up_ne _ _ (by decide)), hs.up25, _, va_up_self _ _ _, ?_⟩
        · rw [if_pos (by rw [← hid]; exact hz_b1 h3)]
        · rw [if_pos (by rw [← hid]; exact hz_b1 h3)]; intro q; exact absurd q (by decide)
    · skip
      refine hz_bipush (pc := 201) (v := nI 12) (hz_dec kX3_ofTransaction 105 rfl) (by decide) ?_
      refine hz_iret (pc := 203) (hz_dec kX3_ofTransaction 106 rfl) rfl ⟨?_, rfl, hfr, hk, hs, fe, hj, ?_⟩
      · rw [if_pos (Or.inr (Int64.not_le.mp (fun q => h2 ((lg_cmp_le _ _).mpr q))))]
      · rw [if_pos (Or.inr (Int64.not_le.mp (fun q => h2 ((lg_cmp_le _ _).mpr q))))]; intro q; exact absurd q (by decide)
set_option maxHeartbeats 4000000 in
set_option maxRecDepth 100000 in
theorem c_oft_l {κ : hz_C} {z : Nat} {M0 : hz_M} (hk0 : ck_k M0 z) {a : Nat} {cs : List co_C} (hc0 : coR M0 a cs) (ha : 26 ≤ a) (hza : a + 8 ≤ z) {bf : Int32} {b n at_ : Nat} {f : Nat → Int32} {t : by_L} (hB0 : M0 b = .inl (1, n, .inl f)) (hb8 : 26 ≤ b) (hbz : b < z) (hn : n < 2 ^ 24) (ht : isA f at_ t) (hat : at_ + t.length ≤ n) (hW : txW t) {h_ : Nat} (hh : h_ < 100000) (hcl : ∀ k, k < cs.length → (coL cs k).2.2.2.2.1 < 100000) {iD : Int64} (hid : iD = idS t) : ∀ k i acc M, k = txI t - i → i ≤ txI t → frS [(9, 20), (25, 26)] M0 M → ck_k M z → ck_s M → (∃ fe, juO M bf fe) → (∃ q : Nat → Int32, M 15 = .inl (0, 8, .inl q) ∧ ∀ j, j < 8 → q j = nI (dgT t j)) → jIn cs t h_ (txI t) 0 0 = jIn cs t h_ (txI t - i) i acc → hz_W κ xX3_ofTransaction 3 0 0 (fun r z2 M2 => some (.int (nI (jSp cs t h_).1)) = r ∧ z = z2 ∧ frS [(9, 20), (25, 26)] M0 M2 ∧ ck_k M2 z ∧ ck_s M2 ∧ ∃ fe, juO M2 bf fe ∧ ((jSp cs t h_).1 = 0 → fe = (jSp cs t h_).2)) 0 0 24 [(11, .int (nI i)), (8, .int (nI (txI t))), (9, .long acc), (0, .ref 25), (1, .ref a), (2, .ref b), (3, .int (nI at_)), (4, .int (nI (t.length))), (5, .long iD), (7, .int (nI h_))] [] z M := by
  intro k
  induction k using Nat.strongRecOn with
  | ind k ih =>
  intro i acc M hk_ hi hfr hk hs hje hdg hjn
  obtain ⟨w1, w2, w3, w4, w5⟩ := txW_sz hW
  obtain ⟨-, -, hz63⟩ := id hk0
  obtain ⟨fe, hj⟩ := id hje
  obtain ⟨q15, h15, hq15⟩ := id hdg
  have hc : coR M a cs := hc0.fr (fun q h1 h2 => hfr.at2 (by omega))
  have hB : M b = .inl (1, n, .inl f) := (hfr.at2 (by omega)).trans hB0
  have hoa : 73 * txI t ≤ tx_oa (txI t) := by unfold tx_oa; split <;> omega
  refine hz_stat (fun hT => ?_)
  obtain ⟨hO, hle, ⟨f7, h7⟩, f1, f2, f3, f4, f5, f6, g1, g2, g3, g4, g5, g6, hX⟩ := id hc
  refine hz_iload (pc := 24) 0 (hz_dec kX3_ofTransaction 14 rfl) rfl ?_
  refine hz_iload (pc := 26) 1 (hz_dec kX3_ofTransaction 15 rfl) rfl ?_
  refine hz_n_ge (pc := 28) (tgt := 179) (hz_dec kX3_ofTransaction 16 rfl) (by decide) (by omega) (by omega) (fun h1 => ?_) (fun h1 => ?_)
  · skip
    have e : i = txI t := by omega
    subst e
    refine hz_pick (pc := 179) [2, 3, 4, 5, 6, 7, 8, 9] rfl ?_
    exact c_oft_e hk0 hc0 ha hza hB0 hb8 hbz hn ht hat hW hh hcl hid hfr hk hs hj (by rw [hjn, Nat.sub_self]; rfl)
  · skip
    refine hz_iloadn (pc := 31) 6 (hz_dec kX3_ofTransaction 17 rfl) rfl ?_
    refine hz_iload (pc := 32) 0 (hz_dec kX3_ofTransaction 18 rfl) rfl ?_
    refine hz_xS (pc := 34) (As := [.int (nI at_), .int (nI i)]) (st := []) (hz_dec kX3_ofTransaction 19 rfl) co_X3_167 sc_X0_inputAt (c_inputAt) rfl (by decide) ⟨Nat.le_refl _, Nat.le_refl _⟩ (Nat.le_of_ble_eq_true rfl) rfl ?_
    refine hz_istore (pc := 37) (i := 12) (lo2 := [(12, .int (nI (at_ + 2 + i * 73))), (11, .int (nI i)), (8, .int (nI (txI t))), (9, .long acc), (0, .ref 25), (1, .ref a), (2, .ref b), (3, .int (nI at_)), (4, .int (nI (t.length))), (5, .long iD), (7, .int (nI h_))]) (hz_dec kX3_ofTransaction 20 rfl) (by decide) rfl ?_
    refine hz_aloadn (pc := 39) 5 (hz_dec kX3_ofTransaction 21 rfl) rfl ?_
    refine hz_aloadn (pc := 40) 6 (hz_dec kX3_ofTransaction 22 rfl) rfl ?_
    refine hz_iload (pc := 41) 0 (hz_dec kX3_ofTransaction 23 rfl) rfl ?_
    refine hz_bipush (pc := 43) (v := nI 8) (hz_dec kX3_ofTransaction 24 rfl) (by decide) ?_
    refine hz_xS (pc := 45) (As := [.ref b, .int (nI (at_ + 2 + i * 73)), .int (nI 8)]) (st := [.ref a]) (hz_dec kX3_ofTransaction 25 rfl) co_X3_61 sc_X0_number (c_number hB (by omega) hbz (by omega) (by omega)) rfl (by decide) ⟨Nat.le_refl _, Nat.le_refl _⟩ (Nat.le_of_ble_eq_true rfl) rfl ?_
    refine hz_eql (pc := 48) (show _ = inId t i by rw [show at_ + 2 + i * 73 = at_ + (2 + 73 * i) by omega]; exact num_of ht (by omega)) ?_
    refine hz_aloadn (pc := 48) 6 (hz_dec kX3_ofTransaction 26 rfl) rfl ?_
    refine hz_iload (pc := 49) 0 (hz_dec kX3_ofTransaction 27 rfl) rfl ?_
    refine hz_bipush (pc := 51) (v := nI 8) (hz_dec kX3_ofTransaction 28 rfl) (by decide) ?_
    refine hz_addN (pc := 53) (hz_dec kX3_ofTransaction 29 rfl) ?_
    refine hz_xS (pc := 54) (As := [.ref b, .int (nI ((at_ + 2 + i * 73) + 8))]) (st := [.long (inId t i), .ref a]) (hz_dec kX3_ofTransaction 30 rfl) co_X3_111 sc_X0_one (c_one hB (by omega) hbz (by omega) (by omega)) rfl (by decide) ⟨Nat.le_refl _, Nat.le_refl _⟩ (Nat.le_of_ble_eq_true rfl) rfl ?_
    refine hz_eqi (pc := 57) (show _ = inPl t i by rw [show at_ + 2 + i * 73 + 8 = at_ + (2 + 73 * i + 8) by omega, ht (2 + 73 * i + 8) (by omega)]; rfl) ?_
    refine hz_xV (pc := 57) (a := a) (As := [.long (inId t i), .int (inPl t i)]) (st := []) (hz_dec kX3_ofTransaction 31 rfl) co_X3_171 im_X1_indexOf se_X1_indexOf rfl hO (by omega) (by omega) (c_coIx hc (by omega) hza) rfl (by decide) ⟨Nat.le_refl _, Nat.le_refl _⟩ (Nat.le_of_ble_eq_true rfl) rfl ?_
    by_cases c : coF cs (inId t i) (inPl t i) < cs.length
    · skip
      refine hz_eqi (pc := 60) (show _ = nI (coF cs (inId t i) (inPl t i)) from if_pos c) ?_
      refine hz_istore (pc := 60) (i := 13) (lo2 := [(13, .int (nI (coF cs (inId t i) (inPl t i)))), (12, .int (nI (at_ + 2 + i * 73))), (11, .int (nI i)), (8, .int (nI (txI t))), (9, .long acc), (0, .ref 25), (1, .ref a), (2, .ref b), (3, .int (nI at_)), (4, .int (nI (t.length))), (5, .long iD), (7, .int (nI h_))]) (hz_dec kX3_ofTransaction 32 rfl) (by decide) rfl ?_
      refine hz_iload (pc := 62) 0 (hz_dec kX3_ofTransaction 33 rfl) rfl ?_
      refine hz_z_lt (pc := 64) (tgt := 80) (hz_dec kX3_ofTransaction 34 rfl) (by decide) (by omega) ?_
      refine hz_aloadn (pc := 67) 7 (hz_dec kX3_ofTransaction 35 rfl) rfl ?_
      refine hz_iloadn (pc := 68) 8 (hz_dec kX3_ofTransaction 36 rfl) rfl ?_
      refine hz_iload (pc := 69) 2 (hz_dec kX3_ofTransaction 37 rfl) rfl ?_
      refine hz_aloadn (pc := 71) 7 (hz_dec kX3_ofTransaction 38 rfl) rfl ?_
      refine hz_iload (pc := 72) 1 (hz_dec kX3_ofTransaction 39 rfl) rfl ?_
      refine hz_xS (pc := 74) (As := [.ref b, .int (nI at_), .int (nI i), .ref b, .int (nI (at_ + 2 + i * 73))]) (st := []) (hz_dec kX3_ofTransaction 40 rfl) co_X3_174 sc_X3_hasInput (c_hasI hB (by omega) hbz (by omega) hB (by omega) hbz (by omega) (by omega) (by omega)) rfl (by decide) ⟨Nat.le_refl _, Nat.le_refl _⟩ (Nat.le_of_ble_eq_true rfl) rfl ?_
      refine hz_eqi (pc := 77) (show _ = hz_b (dupI t i) by rw [dupI_of ht (by omega) (by omega)]) ?_
      refine hz_if_eq (pc := 77) (tgt := 83) (hz_dec kX3_ofTransaction 41 rfl) (by decide) (fun h3 => ?_) (fun h3 => ?_)
      · skip
        have hd9 : dupI t i = false := hz_b0 h3
        refine hz_aloadn (pc := 83) 6 (hz_dec kX3_ofTransaction 44 rfl) rfl ?_
        refine hz_get (pc := 84) (hz_dec kX3_ofTransaction 45 rfl) fo_X3_178 hO (by omega) (by omega) rfl ?_
        refine hz_iload (pc := 87) 0 (hz_dec kX3_ofTransaction 46 rfl) rfl ?_
        refine hz_zald (pc := 89) (j := coF cs (inId t i) (inPl t i)) (hz_dec kX3_ofTransaction 47 rfl) g6 (by omega) (by omega) rfl (by omega) (by decide) ?_
        refine hz_eqi (pc := 90) (hX (coF cs (inId t i) (inPl t i)) (by omega)).2.2.2.2.2 ?_
        refine hz_if_eq (pc := 90) (tgt := 110) (hz_dec kX3_ofTransaction 48 rfl) (by decide) (fun h4 => ?_) (fun h4 => ?_)
        · skip
          have hu9 : coUn (coL cs (coF cs (inId t i) (inPl t i))) h_ = false := coUn_r h4
          obtain ⟨-, -, -, ⟨p0, h14⟩, -⟩ := id hs
          refine hz_aloadn (pc := 110) 5 (hz_dec kX3_ofTransaction 59 rfl) rfl ?_
          refine hz_get (pc := 111) (hz_dec kX3_ofTransaction 60 rfl) fo_X3_40 hj (by decide) (by omega) rfl ?_
          refine hz_aloadn (pc := 114) 7 (hz_dec kX3_ofTransaction 61 rfl) rfl ?_
          refine hz_iload (pc := 115) 1 (hz_dec kX3_ofTransaction 62 rfl) rfl ?_
          refine hz_bipush (pc := 117) (v := nI 9) (hz_dec kX3_ofTransaction 63 rfl) (by decide) ?_
          refine hz_addN (pc := 119) (hz_dec kX3_ofTransaction 64 rfl) ?_
          refine hz_callV (pc := 120) (a := 13) (As := [.ref b, .int (nI ((at_ + 2 + i * 73) + 9))]) (st := []) (hz_dec kX3_ofTransaction 65 rfl) co_X3_183 im_X4_load se_X4_load rfl hk.2.1 (by decide) (by omega) (c_kload hk.2.1 hz63 h14 hB (by omega) hbz (by omega) (by omega)) rfl (by decide) ⟨Nat.le_refl _, Nat.le_refl _⟩ (Nat.le_of_ble_eq_true rfl) rfl (fun r9 z9 M9 hp9 => ?_)
          obtain ⟨rfl, rfl, p1, hp1, rfl⟩ := hp9
          refine hz_aloadn (pc := 123) 5 (hz_dec kX3_ofTransaction 66 rfl) rfl ?_
          refine hz_get (pc := 124) (hz_dec kX3_ofTransaction 67 rfl) fo_X3_40 (hz_mne hj (by omega)) (by decide) (by omega) rfl ?_
          refine hz_aloadn (pc := 127) 5 (hz_dec kX3_ofTransaction 68 rfl) rfl ?_
          refine hz_get (pc := 128) (hz_dec kX3_ofTransaction 69 rfl) fo_X3_40 (hz_mne hj (by omega)) (by decide) (by omega) rfl ?_
          refine hz_get (pc := 131) (hz_dec kX3_ofTransaction 70 rfl) fo_X3_185 (hz_mne hk.2.1 (by omega)) (by decide) (by omega) rfl ?_
          refine hz_gets (pc := 134) (k := 3) (hz_dec kX3_ofTransaction 71 rfl) (by decide) gs_X3_188 ?_
          have hkA : ck_k (va_up M 14 (.inl (2, 8, .inr (.inl (p1))))) z := hk.fs (va_up_ne _ _ (by decide)) (va_up_ne _ _ (by decide))
          refine hz_callV (pc := 137) (a := 13) (As := [.ref 15, .ref 3]) (st := []) (hz_dec kX3_ofTransaction 72 rfl) co_X3_191 im_X4_climb se_X4_climb rfl (hz_mne hk.2.1 (by omega)) (by decide) (by omega) (c_climb (a := dgT t) (b := fun _ => 15) (p0 := p1) hkA hs.up14 (hz_mne h15 (by decide)) (hz_mne (hT 3 (by decide)) (by decide)) (Or.inr ⟨by decide, by omega⟩) (Or.inl (by decide)) (by decide) (by decide) (fun j hj => ⟨hq15 j hj, dgA_le _ _⟩) st_15 (va_up_self _ _ _)) rfl (by decide) ⟨Nat.le_refl _, Nat.le_refl _⟩ (Nat.le_of_ble_eq_true rfl) rfl (fun r9 z9 M2 hp9 => ?_)
          obtain ⟨rfl, rfl, hf2, hs2, p2, hp2, hpc2⟩ := hp9
          have hk2 : ck_k M2 z := hkA.fr hf2 rfl rfl
          have hj2 : juO M2 bf fe := (hf2.z 25 rfl).trans (hz_mne hj (by decide))
          have hfr2 : frS [(9, 20), (25, 26)] M0 M2 := (hfr.upr (by simp only [outS, and_true]; omega)).tr (hf2.S0 rfl)
          refine hz_aloadn (pc := 140) 5 (hz_dec kX3_ofTransaction 73 rfl) rfl ?_
          refine hz_get (pc := 141) (hz_dec kX3_ofTransaction 74 rfl) fo_X3_40 hj2 (by decide) (by omega) rfl ?_
          refine hz_callV (pc := 144) (a := 13) (As := []) (st := []) (hz_dec kX3_ofTransaction 75 rfl) co_X3_195 im_X4_addressOfEnds se_X4_addressOfEnds rfl hk2.2.1 (by decide) (by omega) (c_cadE hk2 hs2 hp2) rfl (by decide) ⟨Nat.le_refl _, Nat.le_refl _⟩ (Nat.le_of_ble_eq_true rfl) rfl (fun r9 z9 M3 hp9 => ?_)
          obtain ⟨rfl, rfl, hf3, hs3, -⟩ := hp9
          refine hz_eql (pc := 147) (show _ = sgA (lf t) (2 + 73 * i + 9) (dgT t) by rw [← sgA_of ht (by omega)]; unfold sgA; exact ky_ad_c (fun j hj => by rw [hpc2 j hj, hp1 j hj, show at_ + 2 + i * 73 + 9 = at_ + (2 + 73 * i + 9) by omega])) ?_
          have hk3 : ck_k M3 z := hk2.fr hf3 rfl rfl
          have hj3 : juO M3 bf fe := (hf3.z 25 rfl).trans hj2
          have hfr3 : frS [(9, 20), (25, 26)] M0 M3 := hfr2.tr (hf3.S0 rfl)
          have hc3 : coR M3 a cs := hc0.fr (fun q h1 h2 => hfr3.at2 (by omega))
          have h15c : M3 15 = .inl (0, 8, .inl q15) := (hf3.z 15 rfl).trans ((hf2.z 15 rfl).trans (hz_mne h15 (by decide)))
          obtain ⟨hO, hle, ⟨f7, h7⟩, f1, f2, f3, f4, f5, f6, g1, g2, g3, g4, g5, g6, hX⟩ := id hc3
          refine hz_aloadn (pc := 147) 6 (hz_dec kX3_ofTransaction 76 rfl) rfl ?_
          refine hz_get (pc := 148) (hz_dec kX3_ofTransaction 77 rfl) fo_X3_199 hO (by omega) (by omega) rfl ?_
          refine hz_iload (pc := 151) 0 (hz_dec kX3_ofTransaction 78 rfl) rfl ?_
          refine hz_lald (pc := 153) (j := coF cs (inId t i) (inPl t i)) (hz_dec kX3_ofTransaction 79 rfl) g4 (by omega) (by omega) rfl (by omega) (by decide) ?_
          refine hz_eql (pc := 154) (hX (coF cs (inId t i) (inPl t i)) (by omega)).2.2.2.1 ?_
          refine hz_lcmp (pc := 154) (hz_dec kX3_ofTransaction 80 rfl) ?_
          refine hz_if_eq (pc := 155) (tgt := 161) (hz_dec kX3_ofTransaction 81 rfl) (by decide) (fun h6 => ?_) (fun h6 => ?_)
          · skip
            refine hz_lload (pc := 161) 4 (hz_dec kX3_ofTransaction 84 rfl) rfl ?_
            refine hz_aloadn (pc := 163) 6 (hz_dec kX3_ofTransaction 85 rfl) rfl ?_
            refine hz_get (pc := 164) (hz_dec kX3_ofTransaction 86 rfl) fo_X3_202 hO (by omega) (by omega) rfl ?_
            refine hz_iload (pc := 167) 0 (hz_dec kX3_ofTransaction 87 rfl) rfl ?_
            refine hz_lald (pc := 169) (j := coF cs (inId t i) (inPl t i)) (hz_dec kX3_ofTransaction 88 rfl) g3 (by omega) (by omega) rfl (by omega) (by decide) ?_
            refine hz_eql (pc := 170) (hX (coF cs (inId t i) (inPl t i)) (by omega)).2.2.1 ?_
            refine hz_ladd (pc := 170) (hz_dec kX3_ofTransaction 89 rfl) ?_
            refine hz_lstore (pc := 171) (i := 9) (lo2 := [(9, .long ((acc) + ((coL cs (coF cs (inId t i) (inPl t i))).2.2.1))), (13, .int (nI (coF cs (inId t i) (inPl t i)))), (12, .int (nI (at_ + 2 + i * 73))), (11, .int (nI i)), (8, .int (nI (txI t))), (0, .ref 25), (1, .ref a), (2, .ref b), (3, .int (nI at_)), (4, .int (nI (t.length))), (5, .long iD), (7, .int (nI h_))]) (hz_dec kX3_ofTransaction 90 rfl) (by decide) rfl ?_
            refine hz_incN (pc := 173) (i := 11) (lo2 := [(11, .int (nI (i + 1))), (9, .long ((acc) + ((coL cs (coF cs (inId t i) (inPl t i))).2.2.1))), (13, .int (nI (coF cs (inId t i) (inPl t i)))), (12, .int (nI (at_ + 2 + i * 73))), (8, .int (nI (txI t))), (0, .ref 25), (1, .ref a), (2, .ref b), (3, .int (nI at_)), (4, .int (nI (t.length))), (5, .long iD), (7, .int (nI h_))]) 3 (hz_dec kX3_ofTransaction 91 rfl) rfl (by decide) rfl ?_
            refine hz_goto (pc := 176) (tgt := 24) (hz_dec kX3_ofTransaction 92 rfl) (by decide) ?_
            refine hz_pick (pc := 24) [0, 4, 1, 5, 6, 7, 8, 9, 10, 11] rfl ?_
            refine ih (txI t - (i + 1)) (by omega) (i + 1) _ _ rfl (by omega) hfr3 hk3 hs3 ⟨fe, hj3⟩ ⟨q15, h15c, hq15⟩ (hjn.trans ?_)
            rw [show txI t - i = (txI t - (i + 1)) + 1 by omega]
            exact jIn_st c hu9 hd9 ((lg_cmp_eq _ _).mp h6)
          · skip
            have e9 : jSp cs t h_ = (11, 0) := jSp_v (hjn.trans (by rw [show txI t - i = (txI t - (i + 1)) + 1 by omega]; exact jIn_11 c hu9 hd9 (fun q => h6 ((lg_cmp_eq _ _).mpr q)))) (by decide)
            refine hz_bipush (pc := 158) (v := nI 11) (hz_dec kX3_ofTransaction 82 rfl) (by decide) ?_
            exact hz_iret (pc := 160) (hz_dec kX3_ofTransaction 83 rfl) rfl ⟨by rw [e9], rfl, hfr3, hk3, hs3, fe, hj3, by rw [e9]; intro q; exact absurd q (by decide)⟩
        · skip
          refine hz_aloadn (pc := 93) 6 (hz_dec kX3_ofTransaction 49 rfl) rfl ?_
          refine hz_get (pc := 94) (hz_dec kX3_ofTransaction 50 rfl) fo_X3_182 hO (by omega) (by omega) rfl ?_
          refine hz_iload (pc := 97) 0 (hz_dec kX3_ofTransaction 51 rfl) rfl ?_
          refine hz_iald (pc := 99) (j := coF cs (inId t i) (inPl t i)) (hz_dec kX3_ofTransaction 52 rfl) g5 (by omega) (by omega) rfl (by omega) (by decide) ?_
          refine hz_eqi (pc := 100) (hX (coF cs (inId t i) (inPl t i)) (by omega)).2.2.2.2.1 ?_
          refine hz_iload (pc := 100) 11 (hz_dec kX3_ofTransaction 53 rfl) rfl ?_
          refine hz_iconst (pc := 102) (v := nI 4) (hz_dec kX3_ofTransaction 54 rfl) (by decide) ?_
          refine hz_isub (pc := 103) (hz_dec kX3_ofTransaction 55 rfl) ?_
          have hch := hcl (coF cs (inId t i) (inPl t i)) c
          refine hz_icmp_le (pc := 104) (tgt := 110) (hz_dec kX3_ofTransaction 56 rfl) (by decide) (fun h5 => ?_) (fun h5 => ?_)
          · skip
            have hu9 : coUn (coL cs (coF cs (inId t i) (inPl t i))) h_ = false := coUn_f (by have q := (ht_le hch hh).mp h5; omega)
            obtain ⟨-, -, -, ⟨p0, h14⟩, -⟩ := id hs
            refine hz_aloadn (pc := 110) 5 (hz_dec kX3_ofTransaction 59 rfl) rfl ?_
            refine hz_get (pc := 111) (hz_dec kX3_ofTransaction 60 rfl) fo_X3_40 hj (by decide) (by omega) rfl ?_
            refine hz_aloadn (pc := 114) 7 (hz_dec kX3_ofTransaction 61 rfl) rfl ?_
            refine hz_iload (pc := 115) 1 (hz_dec kX3_ofTransaction 62 rfl) rfl ?_
            refine hz_bipush (pc := 117) (v := nI 9) (hz_dec kX3_ofTransaction 63 rfl) (by decide) ?_
            refine hz_addN (pc := 119) (hz_dec kX3_ofTransaction 64 rfl) ?_
            refine hz_callV (pc := 120) (a := 13) (As := [.ref b, .int (nI ((at_ + 2 + i * 73) + 9))]) (st := []) (hz_dec kX3_ofTransaction 65 rfl) co_X3_183 im_X4_load se_X4_load rfl hk.2.1 (by decide) (by omega) (c_kload hk.2.1 hz63 h14 hB (by omega) hbz (by omega) (by omega)) rfl (by decide) ⟨Nat.le_refl _, Nat.le_refl _⟩ (Nat.le_of_ble_eq_true rfl) rfl (fun r9 z9 M9 hp9 => ?_)
            obtain ⟨rfl, rfl, p1, hp1, rfl⟩ := hp9
            refine hz_aloadn (pc := 123) 5 (hz_dec kX3_ofTransaction 66 rfl) rfl ?_
            refine hz_get (pc := 124) (hz_dec kX3_ofTransaction 67 rfl) fo_X3_40 (hz_mne hj (by omega)) (by decide) (by omega) rfl ?_
            refine hz_aloadn (pc := 127) 5 (hz_dec kX3_ofTransaction 68 rfl) rfl ?_
            refine hz_get (pc := 128) (hz_dec kX3_ofTransaction 69 rfl) fo_X3_40 (hz_mne hj (by omega)) (by decide) (by omega) rfl ?_
            refine hz_get (pc := 131) (hz_dec kX3_ofTransaction 70 rfl) fo_X3_185 (hz_mne hk.2.1 (by omega)) (by decide) (by omega) rfl ?_
            refine hz_gets (pc := 134) (k := 3) (hz_dec kX3_ofTransaction 71 rfl) (by decide) gs_X3_188 ?_
            have hkA : ck_k (va_up M 14 (.inl (2, 8, .inr (.inl (p1))))) z := hk.fs (va_up_ne _ _ (by decide)) (va_up_ne _ _ (by decide))
            refine hz_callV (pc := 137) (a := 13) (As := [.ref 15, .ref 3]) (st := []) (hz_dec kX3_ofTransaction 72 rfl) co_X3_191 im_X4_climb se_X4_climb rfl (hz_mne hk.2.1 (by omega)) (by decide) (by omega) (c_climb (a := dgT t) (b := fun _ => 15) (p0 := p1) hkA hs.up14 (hz_mne h15 (by decide)) (hz_mne (hT 3 (by decide)) (by decide)) (Or.inr ⟨by decide, by omega⟩) (Or.inl (by decide)) (by decide) (by decide) (fun j hj => ⟨hq15 j hj, dgA_le _ _⟩) st_15 (va_up_self _ _ _)) rfl (by decide) ⟨Nat.le_refl _, Nat.le_refl _⟩ (Nat.le_of_ble_eq_true rfl) rfl (fun r9 z9 M2 hp9 => ?_)
            obtain ⟨rfl, rfl, hf2, hs2, p2, hp2, hpc2⟩ := hp9
            have hk2 : ck_k M2 z := hkA.fr hf2 rfl rfl
            have hj2 : juO M2 bf fe := (hf2.z 25 rfl).trans (hz_mne hj (by decide))
            have hfr2 : frS [(9, 20), (25, 26)] M0 M2 := (hfr.upr (by simp only [outS, and_true]; omega)).tr (hf2.S0 rfl)
            refine hz_aloadn (pc := 140) 5 (hz_dec kX3_ofTransaction 73 rfl) rfl ?_
            refine hz_get (pc := 141) (hz_dec kX3_ofTransaction 74 rfl) fo_X3_40 hj2 (by decide) (by omega) rfl ?_
            refine hz_callV (pc := 144) (a := 13) (As := []) (st := []) (hz_dec kX3_ofTransaction 75 rfl) co_X3_195 im_X4_addressOfEnds se_X4_addressOfEnds rfl hk2.2.1 (by decide) (by omega) (c_cadE hk2 hs2 hp2) rfl (by decide) ⟨Nat.le_refl _, Nat.le_refl _⟩ (Nat.le_of_ble_eq_true rfl) rfl (fun r9 z9 M3 hp9 => ?_)
            obtain ⟨rfl, rfl, hf3, hs3, -⟩ := hp9
            refine hz_eql (pc := 147) (show _ = sgA (lf t) (2 + 73 * i + 9) (dgT t) by rw [← sgA_of ht (by omega)]; unfold sgA; exact ky_ad_c (fun j hj => by rw [hpc2 j hj, hp1 j hj, show at_ + 2 + i * 73 + 9 = at_ + (2 + 73 * i + 9) by omega])) ?_
            have hk3 : ck_k M3 z := hk2.fr hf3 rfl rfl
            have hj3 : juO M3 bf fe := (hf3.z 25 rfl).trans hj2
            have hfr3 : frS [(9, 20), (25, 26)] M0 M3 := hfr2.tr (hf3.S0 rfl)
            have hc3 : coR M3 a cs := hc0.fr (fun q h1 h2 => hfr3.at2 (by omega))
            have h15c : M3 15 = .inl (0, 8, .inl q15) := (hf3.z 15 rfl).trans ((hf2.z 15 rfl).trans (hz_mne h15 (by decide)))
            obtain ⟨hO, hle, ⟨f7, h7⟩, f1, f2, f3, f4, f5, f6, g1, g2, g3, g4, g5, g6, hX⟩ := id hc3
            refine hz_aloadn (pc := 147) 6 (hz_dec kX3_ofTransaction 76 rfl) rfl ?_
            refine hz_get (pc := 148) (hz_dec kX3_ofTransaction 77 rfl) fo_X3_199 hO (by omega) (by omega) rfl ?_
            refine hz_iload (pc := 151) 0 (hz_dec kX3_ofTransaction 78 rfl) rfl ?_
            refine hz_lald (pc := 153) (j := coF cs (inId t i) (inPl t i)) (hz_dec kX3_ofTransaction 79 rfl) g4 (by omega) (by omega) rfl (by omega) (by decide) ?_
            refine hz_eql (pc := 154) (hX (coF cs (inId t i) (inPl t i)) (by omega)).2.2.2.1 ?_
            refine hz_lcmp (pc := 154) (hz_dec kX3_ofTransaction 80 rfl) ?_
            refine hz_if_eq (pc := 155) (tgt := 161) (hz_dec kX3_ofTransaction 81 rfl) (by decide) (fun h6 => ?_) (fun h6 => ?_)
            · skip
              refine hz_lload (pc := 161) 4 (hz_dec kX3_ofTransaction 84 rfl) rfl ?_
              refine hz_aloadn (pc := 163) 6 (hz_dec kX3_ofTransaction 85 rfl) rfl ?_
              refine hz_get (pc := 164) (hz_dec kX3_ofTransaction 86 rfl) fo_X3_202 hO (by omega) (by omega) rfl ?_
              refine hz_iload (pc := 167) 0 (hz_dec kX3_ofTransaction 87 rfl) rfl ?_
              refine hz_lald (pc := 169) (j := coF cs (inId t i) (inPl t i)) (hz_dec kX3_ofTransaction 88 rfl) g3 (by omega) (by omega) rfl (by omega) (by decide) ?_
              refine hz_eql (pc := 170) (hX (coF cs (inId t i) (inPl t i)) (by omega)).2.2.1 ?_
              refine hz_ladd (pc := 170) (hz_dec kX3_ofTransaction 89 rfl) ?_
              refine hz_lstore (pc := 171) (i := 9) (lo2 := [(9, .long ((acc) + ((coL cs (coF cs (inId t i) (inPl t i))).2.2.1))), (13, .int (nI (coF cs (inId t i) (inPl t i)))), (12, .int (nI (at_ + 2 + i * 73))), (11, .int (nI i)), (8, .int (nI (txI t))), (0, .ref 25), (1, .ref a), (2, .ref b), (3, .int (nI at_)), (4, .int (nI (t.length))), (5, .long iD), (7, .int (nI h_))]) (hz_dec kX3_ofTransaction 90 rfl) (by decide) rfl ?_
              refine hz_incN (pc := 173) (i := 11) (lo2 := [(11, .int (nI (i + 1))), (9, .long ((acc) + ((coL cs (coF cs (inId t i) (inPl t i))).2.2.1))), (13, .int (nI (coF cs (inId t i) (inPl t i)))), (12, .int (nI (at_ + 2 + i * 73))), (8, .int (nI (txI t))), (0, .ref 25), (1, .ref a), (2, .ref b), (3, .int (nI at_)), (4, .int (nI (t.length))), (5, .long iD), (7, .int (nI h_))]) 3 (hz_dec kX3_ofTransaction 91 rfl) rfl (by decide) rfl ?_
              refine hz_goto (pc := 176) (tgt := 24) (hz_dec kX3_ofTransaction 92 rfl) (by decide) ?_
              refine hz_pick (pc := 24) [0, 4, 1, 5, 6, 7, 8, 9, 10, 11] rfl ?_
              refine ih (txI t - (i + 1)) (by omega) (i + 1) _ _ rfl (by omega) hfr3 hk3 hs3 ⟨fe, hj3⟩ ⟨q15, h15c, hq15⟩ (hjn.trans ?_)
              rw [show txI t - i = (txI t - (i + 1)) + 1 by omega]
              exact jIn_st c hu9 hd9 ((lg_cmp_eq _ _).mp h6)
            · skip
              have e9 : jSp cs t h_ = (11, 0) := jSp_v (hjn.trans (by rw [show txI t - i = (txI t - (i + 1)) + 1 by omega]; exact jIn_11 c hu9 hd9 (fun q => h6 ((lg_cmp_eq _ _).mpr q)))) (by decide)
              refine hz_bipush (pc := 158) (v := nI 11) (hz_dec kX3_ofTransaction 82 rfl) (by decide) ?_
              exact hz_iret (pc := 160) (hz_dec kX3_ofTransaction 83 rfl) rfl ⟨by rw [e9], rfl, hfr3, hk3, hs3, fe, hj3, by rw [e9]; intro q; exact absurd q (by decide)⟩
          · skip
            have e9 : jSp cs t h_ = (10, 0) := jSp_v (hjn.trans (by rw [show txI t - i = (txI t - (i + 1)) + 1 by omega]; exact jIn_10 (Or.inr (Or.inl (coUn_t h4 (Nat.lt_of_not_le (fun r => h5 ((ht_le hch hh).mpr r)))))))) (by decide)
            refine hz_bipush (pc := 107) (v := nI 10) (hz_dec kX3_ofTransaction 57 rfl) (by decide) ?_
            exact hz_iret (pc := 109) (hz_dec kX3_ofTransaction 58 rfl) rfl ⟨by rw [e9], rfl, hfr, hk, hs, fe, hj, by rw [e9]; intro q; exact absurd q (by decide)⟩
      · skip
        have e9 : jSp cs t h_ = (10, 0) := jSp_v (hjn.trans (by rw [show txI t - i = (txI t - (i + 1)) + 1 by omega]; exact jIn_10 (Or.inr (Or.inr (hz_b1 h3))))) (by decide)
        refine hz_bipush (pc := 80) (v := nI 10) (hz_dec kX3_ofTransaction 42 rfl) (by decide) ?_
        exact hz_iret (pc := 82) (hz_dec kX3_ofTransaction 43 rfl) rfl ⟨by rw [e9], rfl, hfr, hk, hs, fe, hj, by rw [e9]; intro q; exact absurd q (by decide)⟩
    · skip
      refine hz_eqi (pc := 60) (show _ = (-1 : Int32) from if_neg c) ?_
      refine hz_istore (pc := 60) (i := 13) (lo2 := [(13, .int (-1)), (12, .int (nI (at_ + 2 + i * 73))), (11, .int (nI i)), (8, .int (nI (txI t))), (9, .long acc), (0, .ref 25), (1, .ref a), (2, .ref b), (3, .int (nI at_)), (4, .int (nI (t.length))), (5, .long iD), (7, .int (nI h_))]) (hz_dec kX3_ofTransaction 32 rfl) (by decide) rfl ?_
      refine hz_iload (pc := 62) 0 (hz_dec kX3_ofTransaction 33 rfl) rfl ?_
      refine hz_if_lt (pc := 64) (tgt := 80) (hz_dec kX3_ofTransaction 34 rfl) (by decide) (fun h2 => ?_) (fun h2 => ?_)
      · skip
        have e9 : jSp cs t h_ = (10, 0) := jSp_v (hjn.trans (by rw [show txI t - i = (txI t - (i + 1)) + 1 by omega]; exact jIn_10 (Or.inl c))) (by decide)
        refine hz_bipush (pc := 80) (v := nI 10) (hz_dec kX3_ofTransaction 42 rfl) (by decide) ?_
        exact hz_iret (pc := 82) (hz_dec kX3_ofTransaction 43 rfl) rfl ⟨by rw [e9], rfl, hfr, hk, hs, fe, hj, by rw [e9]; intro q; exact absurd q (by decide)⟩
      · skip
        exact absurd (by decide) h2
set_option maxHeartbeats 4000000 in
set_option maxRecDepth 100000 in
theorem c_oft {κ : hz_C} {z : Nat} {M : hz_M} (hk0 : ck_k M z) {a : Nat} {cs : List co_C} (hc0 : coR M a cs) (ha : 26 ≤ a) (hza : a + 8 ≤ z) {bf : Int32} {b n at_ : Nat} {f : Nat → Int32} {t : by_L} (hB0 : M b = .inl (1, n, .inl f)) (hb8 : 26 ≤ b) (hbz : b < z) (hn : n < 2 ^ 24) (ht : isA f at_ t) (hat : at_ + t.length ≤ n) (hW : txW t) {h_ : Nat} (hh : h_ < 100000) (hcl : ∀ k, k < cs.length → (coL cs k).2.2.2.2.1 < 100000) {iD : Int64} (hid : iD = idS t) (hs : ck_s M) {fe : Int64} (hj : juO M bf fe) : hz_Mt κ xX3_ofTransaction 3 0 0 [.ref 25, .ref a, .ref b, .int (nI at_), .int (nI t.length), .long iD, .int (nI h_)] z M (fun r z2 M2 => some (.int (nI (jSp cs t h_).1)) = r ∧ z = z2 ∧ frS [(9, 20), (25, 26)] M M2 ∧ ck_k M2 z ∧ ck_s M2 ∧ ∃ fe, juO M2 bf fe ∧ ((jSp cs t h_).1 = 0 → fe = (jSp cs t h_).2)) := by
  refine hz_ent (lo := [(0, .ref 25), (1, .ref a), (2, .ref b), (3, .int (nI at_)), (4, .int (nI (t.length))), (5, .long iD), (7, .int (nI h_))]) (by decide) (Nat.le_of_ble_eq_true rfl) rfl ?_
  obtain ⟨w1, w2, w3, w4, w5⟩ := txW_sz hW
  obtain ⟨-, -, hz63⟩ := id hk0
  have hoa : 73 * txI t ≤ tx_oa (txI t) ∧ tx_oa (txI t) ≤ 292 := by unfold tx_oa; split <;> omega
  obtain ⟨hO, hle, ⟨f7, h7⟩, f1, f2, f3, f4, f5, f6, g1, g2, g3, g4, g5, g6, hX⟩ := id hc0
  refine hz_bytes hB0 (by omega) hbz (fun hby => ?_)
  refine hz_aloadn (pc := 0) 2 (hz_dec kX3_ofTransaction 0 rfl) rfl ?_
  refine hz_iloadn (pc := 1) 3 (hz_dec kX3_ofTransaction 1 rfl) rfl ?_
  refine hz_xS (pc := 2) (As := [.ref b, .int (nI at_)]) (st := []) (hz_dec kX3_ofTransaction 2 rfl) co_X3_111 sc_X0_one (c_one hB0 (by omega) hbz (by omega) (by omega)) rfl (by decide) ⟨Nat.le_refl _, Nat.le_refl _⟩ (Nat.le_of_ble_eq_true rfl) rfl ?_
  refine hz_eqi (pc := 5) (show _ = nI (txI t) by rw [show at_ = at_ + 0 from rfl, ht 0 (by omega)]; rfl) ?_
  refine hz_istore (pc := 5) (i := 8) (lo2 := [(8, .int (nI (txI t))), (0, .ref 25), (1, .ref a), (2, .ref b), (3, .int (nI at_)), (4, .int (nI (t.length))), (5, .long iD), (7, .int (nI h_))]) (hz_dec kX3_ofTransaction 3 rfl) (by decide) rfl ?_
  refine hz_lconst (pc := 7) (v := 0) (hz_dec kX3_ofTransaction 4 rfl) (by decide) ?_
  refine hz_lstore (pc := 8) (i := 9) (lo2 := [(9, .long 0), (8, .int (nI (txI t))), (0, .ref 25), (1, .ref a), (2, .ref b), (3, .int (nI at_)), (4, .int (nI (t.length))), (5, .long iD), (7, .int (nI h_))]) (hz_dec kX3_ofTransaction 5 rfl) (by decide) rfl ?_
  refine hz_aloadn (pc := 10) 2 (hz_dec kX3_ofTransaction 6 rfl) rfl ?_
  refine hz_get (pc := 11) (hz_dec kX3_ofTransaction 7 rfl) fo_X3_40 hj (by decide) (by omega) rfl ?_
  refine hz_aloadn (pc := 14) 4 (hz_dec kX3_ofTransaction 8 rfl) rfl ?_
  refine hz_iloadn (pc := 15) 5 (hz_dec kX3_ofTransaction 9 rfl) rfl ?_
  refine hz_iload (pc := 16) 6 (hz_dec kX3_ofTransaction 10 rfl) rfl ?_
  refine hz_callV (pc := 18) (a := 13) (As := [.ref b, .int (nI at_), .int (nI (t.length))]) (st := []) (hz_dec kX3_ofTransaction 11 rfl) co_X3_162 im_X4_readDigits se_X4_readDigits rfl hk0.2.1 (by decide) (by omega) (c_readD (s := t.length) (n := txI t) hk0 hs hB0 (by omega) hbz (by omega) (by omega) (by omega) (by omega) (by omega) (mb_bb (hby _ (by omega)) (by rw [show at_ = at_ + 0 from rfl, ht 0 (by omega)]; rfl) (by omega)) (by omega) (by omega)) rfl (by decide) ⟨Nat.le_refl _, Nat.le_refl _⟩ (Nat.le_of_ble_eq_true rfl) rfl (fun r9 z9 M1 hp9 => ?_)
  obtain ⟨rfl, rfl, hf1, hs1, q15, h15, hq15⟩ := hp9
  refine hz_iconst (pc := 21) (v := nI 0) (hz_dec kX3_ofTransaction 12 rfl) (by decide) ?_
  refine hz_istore (pc := 22) (i := 11) (lo2 := [(11, .int (nI 0)), (9, .long 0), (8, .int (nI (txI t))), (0, .ref 25), (1, .ref a), (2, .ref b), (3, .int (nI at_)), (4, .int (nI (t.length))), (5, .long iD), (7, .int (nI h_))]) (hz_dec kX3_ofTransaction 13 rfl) (by decide) rfl ?_
  refine hz_pick (pc := 24) [0, 2, 1, 3, 4, 5, 6, 7, 8, 9] rfl ?_
  refine c_oft_l hk0 hc0 ha hza hB0 hb8 hbz hn ht hat hW hh hcl hid (txI t) 0 0 M1 rfl (by omega) (hf1.S0 rfl) (hk0.fr hf1 rfl rfl) hs1 ⟨fe, (hf1.z 25 rfl).trans hj⟩ ⟨q15, h15, fun j hj => ?_⟩ rfl
  rw [hq15 j hj, dgT_of ht rfl rfl]
  rfl
