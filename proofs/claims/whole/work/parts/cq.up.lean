/-! up: the class reads the disk -/
def rdN (S : ks_S) : Nat := bn_nat (ksD S) (ksN S) 2
def rdL (S : ks_S) : by_L := cutL (ksD S) (ksN S + 2) (rdN S)
def rdO (S : ks_S) : Bool := decide (ksN S + 2 ≤ 12288 ∧ ¬ rdN S = 0 ∧ rdN S ≤ 2945 ∧ ksN S + rdN S + 6 ≤ 12288 ∧ bn_int (ksD S) (ksN S + rdN S + 2) = slI (rdL S) (ksN S) ∧ jBk (ksB S) (enB (ksB S)) (rdL S) false = 0)
def rdS (S : ks_S) : ks_S := (kpB S (rdL S), kpT S (rdL S), ksN S + rdN S + 6, ksF S, ksD S, ksP S, ksL S, ksQ S)
def rdX (S : ks_S) : ks_S := if rdO S = true then rdS S else S
theorem rdL_len (S : ks_S) : (rdL S).length = rdN S := cutL_len _ _ _
/-- a node while it comes up -/
def upC (M : hz_M) (nb v : Nat) (N : nd_N) (S : ks_S) : Prop := M nb = ndO nb (nI v) (nI 0) (nI (ksN S)) (pvI (ksF N.1)) N.2.2.1 N.2.2.2 ∧ (∃ g : Nat → Int32, M (nb + 1) = .inl (1, 12288, .inl g) ∧ ∀ j, j < 12288 → g j = ksD S j) ∧ trR M (nb + 21) (ksB S) (ksT S) (enB (ksB S)) ∧ (∃ cs, coR M (nb + 2) cs) ∧ plR M nb (ksP N.1) ∧ loR M nb (ksL N.1)
theorem upC.fr {M M2 : hz_M} {nb v : Nat} {N : nd_N} {S : ks_S} (h : upC M nb v N S) (e : ∀ q, nb ≤ q → q < nb + 34 → M2 q = M q) : upC M2 nb v N S := by
  obtain ⟨h1, ⟨g, h2, h3⟩, h4, ⟨cs, h5⟩, h6, h7⟩ := h
  exact ⟨(e nb (by omega) (by omega)).trans h1, ⟨g, (e _ (by omega) (by omega)).trans h2, h3⟩, h4.fr (fun q q1 q2 => e q (by omega) (by omega)), ⟨cs, h5.fr (fun q q1 q2 => e q (by omega) (by omega))⟩, h6.fr (fun q q1 q2 => e q (by omega) (by omega)), h7.fr (fun q q1 q2 => e q (by omega) (by omega))⟩
theorem rd_I {S : ks_S} (h : blI (ksB S) (ksN S)) (ho : rdO S = true) (ht : ksT S < (ksB S).length) : blI (ksB (rdS S)) (ksN (rdS S)) ∧ ksT (rdS S) < (ksB (rdS S)).length := by
  obtain ⟨c1, c2, c3, c4, c5, c6⟩ := of_decide_eq_true ho
  have q := h.app c6 (by rw [rdL_len]; exact c4)
  rw [rdL_len] at q
  refine ⟨q, ?_⟩
  show kpT S (rdL S) < (kpB S (rdL S)).length
  have e : (kpB S (rdL S)).length = (ksB S).length + 1 := bl_len1 _ _
  unfold kpT tipN
  split <;> omega
theorem jBk_lt (bl : List bk_B) (en : List en_E) (l : by_L) (nr : Bool) : jBk bl en l nr < 100 := by unfold jBk; have q9 := jPa_lt l (eH en (pvF bl l) + 1) (coAt bl en (pvF bl l)); repeat (first | omega | split)
set_option maxHeartbeats 4000000 in
set_option maxRecDepth 100000 in
theorem c_numberO {κ : hz_C} {z : Nat} {M : hz_M} {b n : Nat} {f : Nat → Int32} (hM : M b = .inl (1, n, .inl f)) (ha : 8 ≤ b) (hz : b < z) (hn : n < 2 ^ 30) {at_ mn : Nat} (hmn : mn ≤ n) (ha3 : at_ < 2 ^ 30) (hr : ¬ at_ + mn ≤ n) : hz_Mt κ xX0_number 0 0 0 [.ref b, .int (nI at_), .int (nI mn)] z M (hz_ex (some (.long 0)) z M) := by
  refine hz_ent (lo := [(0, .ref b), (1, .int (nI at_)), (2, .int (nI mn))]) (by decide) (Nat.le_of_ble_eq_true rfl) rfl ?_
  refine hz_iloadn (pc := 0) 1 (hz_dec kX0_number 0 rfl) rfl ?_
  refine hz_z_lt (pc := 1) (tgt := 12) (hz_dec kX0_number 1 rfl) (by decide) (by omega) ?_
  refine hz_iloadn (pc := 4) 1 (hz_dec kX0_number 2 rfl) rfl ?_
  refine hz_aloadn (pc := 5) 0 (hz_dec kX0_number 3 rfl) rfl ?_
  refine hz_alen (pc := 6) (hz_dec kX0_number 4 rfl) hM (by decide) ha hz ?_
  refine hz_iloadn (pc := 7) 2 (hz_dec kX0_number 5 rfl) rfl ?_
  refine hz_subN (pc := 8) (hz_dec kX0_number 6 rfl) (by omega) ?_
  refine hz_n_le (pc := 9) (tgt := 14) (hz_dec kX0_number 7 rfl) (by decide) (by omega) (by omega) (fun h2 => ?_) (fun h2 => ?_)
  · skip
    exact absurd hr (by omega)
  · skip
    refine hz_lconst (pc := 12) (v := 0) (hz_dec kX0_number 8 rfl) (by decide) ?_
    exact hz_lret (pc := 13) (hz_dec kX0_number 9 rfl) rfl ⟨rfl, rfl, rfl⟩
set_option maxHeartbeats 4000000 in
set_option maxRecDepth 100000 in
theorem c_rdr {κ : hz_C} {z nb nn v tl : Nat} {tr now fr kn gone : Int32} {ll : Nat} (hnb : 63 ≤ nb) (hnbz : nb + 34 ≤ z) (hnn : nn ≤ 6) {M : hz_M} {N : nd_N} {S : ks_S} (hH : M 8 = hoO tl tr) (hO : M 45 = mlO nn now gone ll fr kn) {f53 : Nat → Int32} (h53 : M 53 = .inl (1, 4000, .inl f53)) (hJ : juS M z) (hU : upC M nb v N S) (hI : blI (ksB S) (ksN S)) (ht : ksT S < (ksB S).length) : hz_Mt κ xX11_readRecord 6 0 0 [.ref 8, .ref nb] z M (fun r z2 M2 => some (.int (hz_b (rdO S))) = r ∧ z = z2 ∧ frS [(9, 39), (45, 46), (53, 54), (nb, nb + 34)] M M2 ∧ (∃ ll2, M2 45 = mlO nn now gone ll2 fr kn) ∧ (∃ g : Nat → Int32, M2 53 = .inl (1, 4000, .inl g)) ∧ juS M2 z ∧ upC M2 nb v N (rdX S)) := by
  refine hz_ent (lo := [(0, .ref 8), (1, .ref nb)]) (by decide) (Nat.le_of_ble_eq_true rfl) rfl ?_
  obtain ⟨hn, ⟨gd, hgd, hgD⟩, hT, ⟨cs, hc⟩, hp, hL⟩ := id hU
  have hnx : ksN S ≤ 12288 := hI.2.2.2.1
  have hz63 : 63 ≤ z := by omega
  have hbt := hI.top
  have hbp := hI.p ht
  obtain ⟨b1, b2, b3, b4, b5, b6, b7, b8⟩ := id hbp
  have hoff : offL ((ksB S).map Prod.fst) (ksB S).length + 6 * (ksB S).length = ksN S + 109 := hI.2.2.1.symm
  obtain ⟨bf, fe, hj25⟩ := id hJ.1
  refine hz_aloadn (pc := 0) 1 (hz_dec kX11_readRecord 0 rfl) rfl ?_
  refine hz_get (pc := 1) (hz_dec kX11_readRecord 1 rfl) fo_X11_377 hn (by omega) (by omega) rfl ?_
  refine hz_aloadn (pc := 4) 1 (hz_dec kX11_readRecord 2 rfl) rfl ?_
  refine hz_get (pc := 5) (hz_dec kX11_readRecord 3 rfl) fo_X11_367 hn (by omega) (by omega) rfl ?_
  refine hz_iconst (pc := 8) (v := nI 2) (hz_dec kX11_readRecord 4 rfl) (by decide) ?_
  by_cases hc2 : ksN S + 2 ≤ 12288
  rotate_left
  · skip
    have e0 : rdO S = false := decide_eq_false (fun c => hc2 c.1)
    have eX : rdX S = S := by unfold rdX; rw [e0]; rfl
    refine hz_xS (pc := 9) (As := [.ref (nb + 1), .int (nI (ksN S)), .int (nI 2)]) (st := []) (hz_dec kX11_readRecord 5 rfl) co_X11_273 sc_X0_number (c_numberO (at_ := ksN S) (mn := 2) hgd (by omega) (by omega) (by decide) (by decide) (by omega) hc2) rfl (by decide) ⟨Nat.le_refl _, Nat.le_refl _⟩ (Nat.le_of_ble_eq_true rfl) rfl ?_
    refine hz_l2i (pc := 12) (hz_dec kX11_readRecord 6 rfl) ?_
    refine hz_eqi (pc := 13) (show (0 : Int64).toInt32 = nI 0 by decide) ?_
    refine hz_istoren (pc := 13) (i := 2) (lo2 := [(2, .int (nI 0)), (0, .ref 8), (1, .ref nb)]) (hz_dec kX11_readRecord 7 rfl) rfl (by decide) rfl ?_
    refine hz_aloadn (pc := 14) 2 (hz_dec kX11_readRecord 8 rfl) rfl ?_
    refine hz_get (pc := 15) (hz_dec kX11_readRecord 9 rfl) fo_X11_367 hn (by omega) (by omega) rfl ?_
    refine hz_iloadn (pc := 18) 0 (hz_dec kX11_readRecord 10 rfl) rfl ?_
    refine hz_addN (pc := 19) (hz_dec kX11_readRecord 11 rfl) ?_
    refine hz_bipush (pc := 20) (v := nI 6) (hz_dec kX11_readRecord 12 rfl) (by decide) ?_
    refine hz_addN (pc := 22) (hz_dec kX11_readRecord 13 rfl) ?_
    refine hz_istoren (pc := 23) (i := 3) (lo2 := [(3, .int (nI (((ksN S) + 0) + 6))), (2, .int (nI 0)), (0, .ref 8), (1, .ref nb)]) (hz_dec kX11_readRecord 14 rfl) rfl (by decide) rfl ?_
    refine hz_iloadn (pc := 24) 1 (hz_dec kX11_readRecord 15 rfl) rfl ?_
    refine hz_z_eq (pc := 25) (tgt := 42) (hz_dec kX11_readRecord 16 rfl) (by decide) (by omega) (fun hq1 => ?_) (fun hq1 => ?_)
    · skip
      refine hz_iconst (pc := 42) (v := nI 0) (hz_dec kX11_readRecord 23 rfl) (by decide) ?_
      exact hz_zret (pc := 43) (hz_dec kX11_readRecord 24 rfl) rfl rfl ⟨by rw [e0]; rfl, rfl, frS.rf, ⟨ll, hO⟩, ⟨f53, h53⟩, hJ, by rw [eX]; exact hU⟩
    · skip
      exact absurd hq1 (by decide)
  · skip
    have e2 : (bn_num gd (ksN S) 2).toInt32 = nI (rdN S) := by rw [bn_num_n 2 (by decide), lN_i]; unfold rdN; rw [bn_nat_c 2 (fun i hi => by rw [hgD _ (by omega)])]
    have hr2 : rdN S < 65536 := bn_nat_lt (ksD S) (ksN S) 2
    refine hz_xS (pc := 9) (As := [.ref (nb + 1), .int (nI (ksN S)), .int (nI 2)]) (st := []) (hz_dec kX11_readRecord 5 rfl) co_X11_273 sc_X0_number (c_number (at_ := ksN S) (mn := 2) hgd (by omega) (by omega) (by decide) hc2) rfl (by decide) ⟨Nat.le_refl _, Nat.le_refl _⟩ (Nat.le_of_ble_eq_true rfl) rfl ?_
    refine hz_l2i (pc := 12) (hz_dec kX11_readRecord 6 rfl) ?_
    refine hz_eqi (pc := 13) e2 ?_
    refine hz_istoren (pc := 13) (i := 2) (lo2 := [(2, .int (nI (rdN S))), (0, .ref 8), (1, .ref nb)]) (hz_dec kX11_readRecord 7 rfl) rfl (by decide) rfl ?_
    refine hz_aloadn (pc := 14) 2 (hz_dec kX11_readRecord 8 rfl) rfl ?_
    refine hz_get (pc := 15) (hz_dec kX11_readRecord 9 rfl) fo_X11_367 hn (by omega) (by omega) rfl ?_
    refine hz_iloadn (pc := 18) 0 (hz_dec kX11_readRecord 10 rfl) rfl ?_
    refine hz_addN (pc := 19) (hz_dec kX11_readRecord 11 rfl) ?_
    refine hz_bipush (pc := 20) (v := nI 6) (hz_dec kX11_readRecord 12 rfl) (by decide) ?_
    refine hz_addN (pc := 22) (hz_dec kX11_readRecord 13 rfl) ?_
    refine hz_istoren (pc := 23) (i := 3) (lo2 := [(3, .int (nI (((ksN S) + (rdN S)) + 6))), (2, .int (nI (rdN S))), (0, .ref 8), (1, .ref nb)]) (hz_dec kX11_readRecord 14 rfl) rfl (by decide) rfl ?_
    refine hz_iloadn (pc := 24) 1 (hz_dec kX11_readRecord 15 rfl) rfl ?_
    refine hz_z_eq (pc := 25) (tgt := 42) (hz_dec kX11_readRecord 16 rfl) (by decide) (by omega) (fun hl0_ => ?_) (fun hl0_ => ?_)
    · skip
      have e0 : rdO S = false := decide_eq_false (fun c => c.2.1 hl0_)
      have eX : rdX S = S := by unfold rdX; rw [e0]; rfl
      refine hz_iconst (pc := 42) (v := nI 0) (hz_dec kX11_readRecord 23 rfl) (by decide) ?_
      exact hz_zret (pc := 43) (hz_dec kX11_readRecord 24 rfl) rfl rfl ⟨by rw [e0]; rfl, rfl, frS.rf, ⟨ll, hO⟩, ⟨f53, h53⟩, hJ, by rw [eX]; exact hU⟩
    · skip
      have hl0 : ¬ rdN S = 0 := by omega
      refine hz_iloadn (pc := 28) 1 (hz_dec kX11_readRecord 17 rfl) rfl ?_
      refine hz_sipush (pc := 29) (v := nI 2945) (hz_dec kX11_readRecord 18 rfl) (by decide) ?_
      refine hz_n_gt (pc := 32) (tgt := 42) (hz_dec kX11_readRecord 19 rfl) (by decide) (by omega) (by omega) (fun hl1 => ?_) (fun hl1 => ?_)
      · skip
        have e0 : rdO S = false := decide_eq_false (fun c => absurd c.2.2.1 (by omega))
        have eX : rdX S = S := by unfold rdX; rw [e0]; rfl
        refine hz_iconst (pc := 42) (v := nI 0) (hz_dec kX11_readRecord 23 rfl) (by decide) ?_
        exact hz_zret (pc := 43) (hz_dec kX11_readRecord 24 rfl) rfl rfl ⟨by rw [e0]; rfl, rfl, frS.rf, ⟨ll, hO⟩, ⟨f53, h53⟩, hJ, by rw [eX]; exact hU⟩
      · skip
        refine hz_iloadn (pc := 35) 0 (hz_dec kX11_readRecord 20 rfl) rfl ?_
        refine hz_sipush (pc := 36) (v := nI 12288) (hz_dec kX11_readRecord 21 rfl) (by decide) ?_
        refine hz_n_le (pc := 39) (tgt := 44) (hz_dec kX11_readRecord 22 rfl) (by decide) (by omega) (by omega) (fun hl2 => ?_) (fun hl2 => ?_)
        · skip
          refine hz_aloadn (pc := 44) 2 (hz_dec kX11_readRecord 25 rfl) rfl ?_
          refine hz_get (pc := 45) (hz_dec kX11_readRecord 26 rfl) fo_X11_62 hH (by omega) (by omega) rfl ?_
          refine hz_aloadn (pc := 48) 3 (hz_dec kX11_readRecord 27 rfl) rfl ?_
          refine hz_get (pc := 49) (hz_dec kX11_readRecord 28 rfl) fo_X11_377 hn (by omega) (by omega) rfl ?_
          refine hz_aloadn (pc := 52) 3 (hz_dec kX11_readRecord 29 rfl) rfl ?_
          refine hz_get (pc := 53) (hz_dec kX11_readRecord 30 rfl) fo_X11_367 hn (by omega) (by omega) rfl ?_
          refine hz_iconst (pc := 56) (v := nI 2) (hz_dec kX11_readRecord 31 rfl) (by decide) ?_
          refine hz_addN (pc := 57) (hz_dec kX11_readRecord 32 rfl) ?_
          refine hz_iloadn (pc := 58) 1 (hz_dec kX11_readRecord 33 rfl) rfl ?_
          have hAl : isA gd (ksN S + 2) (rdL S) := by intro j hj; rw [rdL_len] at hj; rw [hgD _ (by omega)]; exact (lf_cutL hj).symm
          have hll : (rdL S).length = rdN S := rdL_len S
          have hcH := c_hold (κ := κ) hz63 hO hnn (at_ := ksN S + 2) (t := rdL S) hgd (by omega) (by omega) (by omega) (by decide) hAl (by omega) h53 (by omega)
          rw [hll] at hcH
          refine hz_callV (pc := 59) (a := 45) (As := [.ref (nb + 1), .int (nI ((ksN S) + 2)), .int (nI (rdN S))]) (st := []) (hz_dec kX11_readRecord 34 rfl) co_X11_296 im_X5_hold se_X5_hold rfl hO (by omega) (by omega) (hcH) rfl (by decide) ⟨Nat.le_refl _, Nat.le_refl _⟩ (Nat.le_of_ble_eq_true rfl) rfl (fun r9 z9 M2 hp9 => ?_)
          obtain ⟨rfl, rfl, hf2, hO2, g2, h532, hA2⟩ := hp9
          have hH2 := (hf2.at2 (q := 8) (by omega)).trans hH
          have hU2 : upC M2 nb v N S := hU.fr (fun q q1 q2 => hf2.at2 (by omega))
          have hJ2 : juS M2 z := hJ.al (fun q q1 q2 => hf2.at2 (by omega))
          have hn2 := (hf2.at2 (q := nb) (by omega)).trans hn
          have hgd2 := (hf2.at2 (q := nb + 1) (by omega)).trans hgd
          have hj2 : juO M2 bf fe := (hf2.at2 (q := 25) (by omega)).trans hj25
          refine hz_aloadn (pc := 62) 3 (hz_dec kX11_readRecord 35 rfl) rfl ?_
          refine hz_get (pc := 63) (hz_dec kX11_readRecord 36 rfl) fo_X11_377 hn2 (by omega) (by omega) rfl ?_
          refine hz_iloadn (pc := 66) 0 (hz_dec kX11_readRecord 37 rfl) rfl ?_
          refine hz_iconst (pc := 67) (v := nI 4) (hz_dec kX11_readRecord 38 rfl) (by decide) ?_
          refine hz_subN (pc := 68) (hz_dec kX11_readRecord 39 rfl) (by omega) ?_
          refine hz_iconst (pc := 69) (v := nI 4) (hz_dec kX11_readRecord 40 rfl) (by decide) ?_
          have e4 : (bn_num gd (ksN S + rdN S + 6 - 4) 4).toInt32 = bn_int (ksD S) (ksN S + rdN S + 2) := by rw [bn_int_l, show ksN S + rdN S + 6 - 4 = ksN S + rdN S + 2 by omega]; exact bn_int_c (fun i hi => by rw [hgD _ (by omega)])
          refine hz_xS (pc := 70) (As := [.ref (nb + 1), .int (nI ((((ksN S) + (rdN S)) + 6) - 4)), .int (nI 4)]) (st := []) (hz_dec kX11_readRecord 41 rfl) co_X11_273 sc_X0_number (c_number (at_ := ksN S + rdN S + 6 - 4) (mn := 4) hgd2 (by omega) (by omega) (by decide) (by omega)) rfl (by decide) ⟨Nat.le_refl _, Nat.le_refl _⟩ (Nat.le_of_ble_eq_true rfl) rfl ?_
          refine hz_l2i (pc := 73) (hz_dec kX11_readRecord 42 rfl) ?_
          refine hz_eqi (pc := 74) e4 ?_
          refine hz_istore (pc := 74) (i := 4) (lo2 := [(4, .int (bn_int (ksD S) (ksN S + rdN S + 2))), (3, .int (nI (((ksN S) + (rdN S)) + 6))), (2, .int (nI (rdN S))), (0, .ref 8), (1, .ref nb)]) (hz_dec kX11_readRecord 43 rfl) (by decide) rfl ?_
          refine hz_iload (pc := 76) 0 (hz_dec kX11_readRecord 44 rfl) rfl ?_
          refine hz_aloadn (pc := 78) 3 (hz_dec kX11_readRecord 45 rfl) rfl ?_
          refine hz_get (pc := 79) (hz_dec kX11_readRecord 46 rfl) fo_X11_46 hH2 (by omega) (by omega) rfl ?_
          refine hz_aloadn (pc := 82) 3 (hz_dec kX11_readRecord 47 rfl) rfl ?_
          refine hz_get (pc := 83) (hz_dec kX11_readRecord 48 rfl) fo_X11_62 hH2 (by omega) (by omega) rfl ?_
          refine hz_get (pc := 86) (hz_dec kX11_readRecord 49 rfl) fo_X11_450 hO2 (by omega) (by omega) rfl ?_
          refine hz_iloadn (pc := 89) 2 (hz_dec kX11_readRecord 50 rfl) rfl ?_
          refine hz_aloadn (pc := 90) 4 (hz_dec kX11_readRecord 51 rfl) rfl ?_
          refine hz_get (pc := 91) (hz_dec kX11_readRecord 52 rfl) fo_X11_367 hn2 (by omega) (by omega) rfl ?_
          have hcS := c_seal (κ := κ) (p := ksN S) hJ2 h532 (by decide) (by omega) (by decide) hA2 (by omega) (by omega) (by omega)
          rw [hll] at hcS
          refine hz_callV (pc := 94) (a := 25) (As := [.ref 53, .int (nI (rdN S)), .int (nI (ksN S))]) (st := [.int (bn_int (ksD S) (ksN S + rdN S + 2))]) (hz_dec kX11_readRecord 53 rfl) co_X11_464 im_X3_sealOf se_X3_sealOf rfl hj2 (by omega) (by omega) (hcS) rfl (by decide) ⟨Nat.le_refl _, Nat.le_refl _⟩ (Nat.le_of_ble_eq_true rfl) rfl (fun r9 z9 M3 hp9 => ?_)
          obtain ⟨rfl, rfl, hf3, hJ3⟩ := hp9
          have hH3 := (hf3.at2 (q := 8) (by omega)).trans hH2
          have hU3 : upC M3 nb v N S := hU2.fr (fun q q1 q2 => hf3.at2 (by omega))
          have hO3 := (hf3.at2 (q := 45) (by omega)).trans hO2
          have h533 := (hf3.at2 (q := 53) (by omega)).trans h532
          have hn3 := (hf3.at2 (q := nb) (by omega)).trans hn2
          have hgd3 := (hf3.at2 (q := nb + 1) (by omega)).trans hgd2
          obtain ⟨bf3, fe3, hj3⟩ := id hJ3.1
          have hfz3 : frS [(9, 39), (45, 46), (53, 54), (nb, nb + 34)] M M3 := (hf2.mono (fun q (h9 : outS [(9, 39), (45, 46), (53, 54), (nb, nb + 34)] q) => ⟨h9.2.1, h9.2.2.1, trivial⟩)).tr (hf3.mono (fun q (h9 : outS [(9, 39), (45, 46), (53, 54), (nb, nb + 34)] q) => ⟨by have r := h9.1; omega, by have r := h9.1; omega, trivial⟩))
          refine hz_icmp_eq (pc := 97) (tgt := 102) (hz_dec kX11_readRecord 54 rfl) (by decide) (fun hsl => ?_) (fun hsl => ?_)
          · skip
            refine hz_aloadn (pc := 102) 3 (hz_dec kX11_readRecord 57 rfl) rfl ?_
            refine hz_get (pc := 103) (hz_dec kX11_readRecord 58 rfl) fo_X11_46 hH3 (by omega) (by omega) rfl ?_
            refine hz_aloadn (pc := 106) 4 (hz_dec kX11_readRecord 59 rfl) rfl ?_
            refine hz_aloadn (pc := 107) 3 (hz_dec kX11_readRecord 60 rfl) rfl ?_
            refine hz_get (pc := 108) (hz_dec kX11_readRecord 61 rfl) fo_X11_62 hH3 (by omega) (by omega) rfl ?_
            refine hz_get (pc := 111) (hz_dec kX11_readRecord 62 rfl) fo_X11_450 hO3 (by omega) (by omega) rfl ?_
            refine hz_iloadn (pc := 114) 2 (hz_dec kX11_readRecord 63 rfl) rfl ?_
            refine hz_iconst (pc := 115) (v := nI 0) (hz_dec kX11_readRecord 64 rfl) (by decide) ?_
            have hT3 := hU3.2.2.1
            have hcO := c_ofBlk (κ := κ) (od := false) hn3 hnb hnbz (by omega) hT3 b4 b6 b7 hJ3 h533 (by decide) (by omega) (by omega) (by decide) hA2 (by omega)
            rw [hll] at hcO
            refine hz_callV (pc := 116) (a := 25) (As := [.ref nb, .ref 53, .int (nI (rdN S)), .int (nI 0)]) (st := []) (hz_dec kX11_readRecord 65 rfl) co_X11_288 im_X3_ofBlock se_X3_ofBlock rfl hj3 (by omega) (by omega) (hcO) rfl (by decide) ⟨Nat.le_refl _, Nat.le_refl _⟩ (Nat.le_of_ble_eq_true rfl) rfl (fun r9 z9 M4 hp9 => ?_)
            obtain ⟨rfl, rfl, hf4, hT4, hJ4, hh4, hj4⟩ := hp9
            refine hz_eqi (pc := 119) (show _ = nI (jBk (ksB S) (enB (ksB S)) (rdL S) false) from rfl) ?_
            have hj31 := jBk_lt (ksB S) (enB (ksB S)) (rdL S) false
            have hh4 : ¬ jBk (ksB S) (enB (ksB S)) (rdL S) false = 1 → ∃ fh : Nat → Int32, M4 37 = .inl (1, 32, .inl fh) ∧ isA fh 0 (haS (rdL S)) := hh4
            have hj4 : jBk (ksB S) (enB (ksB S)) (rdL S) false = 0 → (∃ fe, juO M4 (nI (pvF (ksB S) (rdL S))) fe) ∧ ∃ fi : Nat → Int64, M4 38 = .inl (2, 8, .inr (.inl fi)) ∧ ∀ j, j < bkN (rdL S) → fi j = idS (bkT (rdL S) j) := hj4
            have hH4 := (hf4.at2 (q := 8) (by omega)).trans hH3
            have hO4 := (hf4.at2 (q := 45) (by omega)).trans hO3
            have h534 := (hf4.at2 (q := 53) (by omega)).trans h533
            have hn4 := (hf4.at2 (q := nb) (by omega)).trans hn3
            have hgd4 := (hf4.at2 (q := nb + 1) (by omega)).trans hgd3
            have hU4 : upC M4 nb v N S := by obtain ⟨q1, ⟨g, q2, q3⟩, -, ⟨cs9, q5⟩, q6, q7⟩ := id hU3; exact ⟨(hf4.at2 (by omega)).trans q1, ⟨g, (hf4.at2 (by omega)).trans q2, q3⟩, hT4, ⟨cs9, q5.fr (fun q r1 r2 => hf4.at2 (by omega))⟩, q6.fr (fun q r1 r2 => hf4.at2 (by omega)), q7.fr (fun q r1 r2 => hf4.at2 (by omega))⟩
            have hfz4 : frS [(9, 39), (45, 46), (53, 54), (nb, nb + 34)] M M4 := hfz3.tr (hf4.mono (fun q (h9 : outS [(9, 39), (45, 46), (53, 54), (nb, nb + 34)] q) => ⟨h9.1, by have r := h9.2.2.2.1; omega, trivial⟩))
            have htO := hT4.1
            refine hz_z_eq (pc := 119) (tgt := 124) (hz_dec kX11_readRecord 66 rfl) (by decide) (by omega) (fun hj0 => ?_) (fun hj0 => ?_)
            · skip
              have e1 : rdO S = true := decide_eq_true ⟨hc2, hl0, by omega, by omega, hsl, hj0⟩
              have eX : rdX S = rdS S := by unfold rdX; rw [e1]; rfl
              obtain ⟨j1, j2, j3, j4, j5, j6⟩ := jBk_0 hj0
              have hRt := wkS_R j3
              have hto := (hI.to j5 hRt).2
              have hln := j1.len
              obtain ⟨⟨fe4, hj4o⟩, fi4, h384, hfi4⟩ := hj4 hj0
              obtain ⟨fh4, h374, hhA4⟩ := hh4 (by rw [hj0]; decide)
              have hnI := hI.app hj0 (by omega)
              have hnt := hnI.top.2.1
              rw [bl_len1] at hnt
              refine hz_aloadn (pc := 124) 4 (hz_dec kX11_readRecord 69 rfl) rfl ?_
              refine hz_get (pc := 125) (hz_dec kX11_readRecord 70 rfl) fo_X11_104 hn4 (by omega) (by omega) rfl ?_
              refine hz_aloadn (pc := 128) 3 (hz_dec kX11_readRecord 71 rfl) rfl ?_
              refine hz_get (pc := 129) (hz_dec kX11_readRecord 72 rfl) fo_X11_62 hH4 (by omega) (by omega) rfl ?_
              refine hz_get (pc := 132) (hz_dec kX11_readRecord 73 rfl) fo_X11_450 hO4 (by omega) (by omega) rfl ?_
              refine hz_iloadn (pc := 135) 2 (hz_dec kX11_readRecord 74 rfl) rfl ?_
              refine hz_aloadn (pc := 136) 3 (hz_dec kX11_readRecord 75 rfl) rfl ?_
              refine hz_get (pc := 137) (hz_dec kX11_readRecord 76 rfl) fo_X11_46 hH4 (by omega) (by omega) rfl ?_
              refine hz_get (pc := 140) (hz_dec kX11_readRecord 77 rfl) fo_X11_108 hj4o (by omega) (by omega) rfl ?_
              refine hz_aloadn (pc := 143) 3 (hz_dec kX11_readRecord 78 rfl) rfl ?_
              refine hz_get (pc := 144) (hz_dec kX11_readRecord 79 rfl) fo_X11_46 hH4 (by omega) (by omega) rfl ?_
              refine hz_get (pc := 147) (hz_dec kX11_readRecord 80 rfl) fo_X11_111 hj4o (by omega) (by omega) rfl ?_
              refine hz_aloadn (pc := 150) 3 (hz_dec kX11_readRecord 81 rfl) rfl ?_
              refine hz_get (pc := 151) (hz_dec kX11_readRecord 82 rfl) fo_X11_46 hH4 (by omega) (by omega) rfl ?_
              refine hz_get (pc := 154) (hz_dec kX11_readRecord 83 rfl) fo_X11_471 hj4o (by omega) (by omega) rfl ?_
              have hcA := c_trAdd (κ := κ) hT4 (by omega) (by omega) (enB_len _) hJ4.2.2.2.2.2.2.2.2.2 h534 (by decide) (by omega) (by omega) (by decide) hA2 (by omega) j1 hRt h374 hhA4 h384 hfi4 b4 j5 (by omega) (by omega) hto
              rw [hll] at hcA
              refine hz_callV (pc := 157) (a := nb + 21) (As := [.ref 53, .int (nI (rdN S)), .ref 37, .ref 38, .int (nI (pvF (ksB S) (rdL S)))]) (st := []) (hz_dec kX11_readRecord 84 rfl) co_X11_115 im_X10_add se_X10_add rfl htO (by omega) (by omega) (hcA) rfl (by decide) ⟨Nat.le_refl _, Nat.le_refl _⟩ (Nat.le_of_ble_eq_true rfl) rfl (fun r9 z9 M5 hp9 => ?_)
              obtain ⟨rfl, rfl, hf5, hw5, hT5⟩ := hp9
              have hJ5 : juS M5 z := hJ4.w (fun q q1 q2 q3 => hf5.at2 (by omega)) hw5
              have hn5 := (hf5.at2 (q := nb) (by omega)).trans hn4
              refine hz_aloadn (pc := 160) 4 (hz_dec kX11_readRecord 85 rfl) rfl ?_
              refine hz_iloadn (pc := 161) 1 (hz_dec kX11_readRecord 86 rfl) rfl ?_
              refine hz_puti (pc := 162) (hz_dec kX11_readRecord 87 rfl) fo_X11_367 ft_X6_3 hn5 (by omega) (by omega) (Nat.le_of_ble_eq_true rfl) ?_
              refine hz_mem (pc := 165) (M2 := (va_up M5 nb (.inr (6, [.int (nI v), .int (nI 0), .ref (nb + 1), .int (nI (((ksN S) + (rdN S)) + 6)), .int (pvI (ksF N.1)), .ref (nb + 21), .ref (nb + 2), .ref (nb + 10), .ref (nb + 13), .ref (nb + 14), .ref (nb + 15), .ref (nb + 18), .int N.2.2.1, .int N.2.2.2])))) rfl ?_
              refine hz_iconst (pc := 165) (v := nI 1) (hz_dec kX11_readRecord 88 rfl) (by decide) ?_
              have hf6 : frS [(9, 39), (45, 46), (53, 54), (nb, nb + 34)] M5 (va_up M5 nb (.inr (6, [.int (nI v), .int (nI 0), .ref (nb + 1), .int (nI (((ksN S) + (rdN S)) + 6)), .int (pvI (ksF N.1)), .ref (nb + 21), .ref (nb + 2), .ref (nb + 10), .ref (nb + 13), .ref (nb + 14), .ref (nb + 15), .ref (nb + 18), .int N.2.2.1, .int N.2.2.2]))) := frS.rf.upr (a := nb) (by simp only [outS, and_true]; omega)
              have hT5b : trR M5 (nb + 21) (kpB S (rdL S)) (kpT S (rdL S)) (enB (kpB S (rdL S))) := by unfold kpB; rw [enB_app]; exact hT5
              have hU6 : upC (va_up M5 nb (.inr (6, [.int (nI v), .int (nI 0), .ref (nb + 1), .int (nI (((ksN S) + (rdN S)) + 6)), .int (pvI (ksF N.1)), .ref (nb + 21), .ref (nb + 2), .ref (nb + 10), .ref (nb + 13), .ref (nb + 14), .ref (nb + 15), .ref (nb + 18), .int N.2.2.1, .int N.2.2.2]))) nb v N (rdX S) := by rw [eX]; obtain ⟨q1, ⟨g, q2, q3⟩, -, ⟨cs9, q5⟩, q6, q7⟩ := id hU4; exact ⟨va_up_self _ _ _, ⟨g, hz_mne ((hf5.at2 (by omega)).trans q2) (by omega), q3⟩, hT5b.fr (fun q r1 r2 => va_up_ne _ _ (by omega)), ⟨cs9, q5.fr (fun q r1 r2 => (va_up_ne _ _ (by omega)).trans (hf5.at2 (by omega)))⟩, q6.fr (fun q r1 r2 => (va_up_ne _ _ (by omega)).trans (hf5.at2 (by omega))), q7.fr (fun q r1 r2 => (va_up_ne _ _ (by omega)).trans (hf5.at2 (by omega)))⟩
              have hfz6 : frS [(9, 39), (45, 46), (53, 54), (nb, nb + 34)] M (va_up M5 nb (.inr (6, [.int (nI v), .int (nI 0), .ref (nb + 1), .int (nI (((ksN S) + (rdN S)) + 6)), .int (pvI (ksF N.1)), .ref (nb + 21), .ref (nb + 2), .ref (nb + 10), .ref (nb + 13), .ref (nb + 14), .ref (nb + 15), .ref (nb + 18), .int N.2.2.1, .int N.2.2.2]))) := (hfz4.tr (hf5.mono (fun q (h9 : outS [(9, 39), (45, 46), (53, 54), (nb, nb + 34)] q) => ⟨by have r := h9.2.2.2.1; omega, by have r := h9.1; omega, trivial⟩))).tr hf6
              exact hz_zret (pc := 166) (hz_dec kX11_readRecord 89 rfl) rfl rfl ⟨by rw [e1]; rfl, rfl, hfz6, ⟨_, hz_mne ((hf5.at2 (by omega)).trans hO4) (by omega)⟩, ⟨_, hz_mne ((hf5.at2 (by omega)).trans h534) (by omega)⟩, hJ5.al (fun q q1 q2 => va_up_ne _ _ (by omega)), hU6⟩
            · skip
              have e0 : rdO S = false := decide_eq_false (fun c => absurd c.2.2.2.2.2 (by omega))
              have eX : rdX S = S := by unfold rdX; rw [e0]; rfl
              refine hz_iconst (pc := 122) (v := nI 0) (hz_dec kX11_readRecord 67 rfl) (by decide) ?_
              exact hz_zret (pc := 123) (hz_dec kX11_readRecord 68 rfl) rfl rfl ⟨by rw [e0]; rfl, rfl, hfz4, ⟨_, hO4⟩, ⟨_, h534⟩, hJ4, by rw [eX]; exact hU4⟩
          · skip
            have e0 : rdO S = false := decide_eq_false (fun c => hsl c.2.2.2.2.1)
            have eX : rdX S = S := by unfold rdX; rw [e0]; rfl
            refine hz_iconst (pc := 100) (v := nI 0) (hz_dec kX11_readRecord 55 rfl) (by decide) ?_
            exact hz_zret (pc := 101) (hz_dec kX11_readRecord 56 rfl) rfl rfl ⟨by rw [e0]; rfl, rfl, hfz3, ⟨_, hO3⟩, ⟨_, h533⟩, hJ3, by rw [eX]; exact hU3⟩
        · skip
          have e0 : rdO S = false := decide_eq_false (fun c => absurd c.2.2.2.1 (by omega))
          have eX : rdX S = S := by unfold rdX; rw [e0]; rfl
          refine hz_iconst (pc := 42) (v := nI 0) (hz_dec kX11_readRecord 23 rfl) (by decide) ?_
          exact hz_zret (pc := 43) (hz_dec kX11_readRecord 24 rfl) rfl rfl ⟨by rw [e0]; rfl, rfl, frS.rf, ⟨ll, hO⟩, ⟨f53, h53⟩, hJ, by rw [eX]; exact hU⟩
