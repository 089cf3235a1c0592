/-! up: readRecord, the reference, whole -/
set_option maxHeartbeats 4000000 in
set_option maxRecDepth 100000 in
theorem c_rrd {κ : hz_C} {z B : Nat} {M0 : hz_M} {H : ho_H} (hnn : (hoN H).length ≤ 6) (hR : hmR M0 z B H) {v : Nat} (hv : v < (hoN H).length) {N : nd_N} (hN : ndL (hoN H) v = N) (hup : N.2.1 = true) (hI : ksI N.1) : hz_Mt κ xX12_readRecord 10 0 0 [.ref B, .int (nI v)] z M0 (rdP M0 z B v H N) := by
  refine hz_ent (lo := [(0, .ref B), (1, .int (nI v))]) (by decide) (Nat.le_of_ble_eq_true rfl) rfl ?_
  obtain ⟨hk0, hE0, -, hNd0, -⟩ := id hR
  obtain ⟨-, -, -, h8, hz⟩ := id hk0
  have hv6 : v < 6 := by omega
  have h0 : mdN M0 B v N := by have q := hNd0 v hv; rw [hN] at q; exact q
  have h01 : mnS M0 B v 1 N.1 (pvI (ksF N.1)) (ksP N.1) := by have q := h0.1; rw [hup] at q; exact q
  obtain ⟨p1, p2, p3, p4, ⟨p5a, p5b, p5c⟩, p6, p7, p9⟩ := id h01
  have hnx : ksN N.1 ≤ 12288 := hI.1.2.2.2.1
  have hll : (rdL N.1).length = rdN N.1 := rdL_len N.1
  obtain ⟨fs0, hO0, hF0⟩ := id hk0.1
  have hrl : rdN N.1 < 65536 := bn_nat_lt (ksD N.1) (ksN N.1) 2
  refine hz_aloadn (pc := 0) 0 (hz_dec kX12_readRecord 0 rfl) rfl ?_
  refine hz_get (pc := 1) (v := .ref (B + 18)) (hz_dec kX12_readRecord 1 rfl) fo_X12_65 hO0 h8 (by omega) (hF0.2 20 (by decide) (by decide)) ?_
  refine hz_iloadn (pc := 4) 1 (hz_dec kX12_readRecord 2 rfl) rfl ?_
  refine hz_iald (pc := 5) (j := v) (hz_dec kX12_readRecord 3 rfl) hE0.a18 (by omega) (by omega) rfl (by omega) (by decide) ?_
  refine hz_eqi (pc := 6) p3 ?_
  refine hz_istoren (pc := 6) (i := 2) (lo2 := [(2, .int (nI (ksN N.1))), (0, .ref B), (1, .int (nI v))]) (hz_dec kX12_readRecord 4 rfl) rfl (by decide) rfl ?_
  refine hz_sipush (pc := 7) (v := nI 12288) (hz_dec kX12_readRecord 5 rfl) (by decide) ?_
  refine hz_iloadn (pc := 10) 2 (hz_dec kX12_readRecord 6 rfl) rfl ?_
  refine hz_mulN (pc := 11) (hz_dec kX12_readRecord 7 rfl) ?_
  refine hz_iloadn (pc := 12) 0 (hz_dec kX12_readRecord 8 rfl) rfl ?_
  refine hz_addN (pc := 13) (hz_dec kX12_readRecord 9 rfl) ?_
  refine hz_istoren (pc := 14) (i := 3) (lo2 := [(3, .int (nI ((12288 * v) + (ksN N.1)))), (2, .int (nI (ksN N.1))), (0, .ref B), (1, .int (nI v))]) (hz_dec kX12_readRecord 10 rfl) rfl (by decide) rfl ?_
  refine hz_iloadn (pc := 15) 1 (hz_dec kX12_readRecord 11 rfl) rfl ?_
  refine hz_iconst (pc := 16) (v := nI 2) (hz_dec kX12_readRecord 12 rfl) (by decide) ?_
  refine hz_addN (pc := 17) (hz_dec kX12_readRecord 13 rfl) ?_
  refine hz_sipush (pc := 18) (v := nI 12288) (hz_dec kX12_readRecord 14 rfl) (by decide) ?_
  refine hz_n_le (pc := 21) (tgt := 26) (hz_dec kX12_readRecord 15 rfl) (by decide) (by omega) (by omega) (fun h1 => ?_) (fun h1 => ?_)
  · skip
    refine hz_aloadn (pc := 26) 2 (hz_dec kX12_readRecord 18 rfl) rfl ?_
    refine hz_get (pc := 27) (v := .ref (B + 17)) (hz_dec kX12_readRecord 19 rfl) fo_X12_62 hO0 h8 (by omega) (hF0.2 19 (by decide) (by decide)) ?_
    refine hz_iloadn (pc := 30) 0 (hz_dec kX12_readRecord 20 rfl) rfl ?_
    refine hz_bald (pc := 31) (j := (12288 * v) + (ksN N.1)) (hz_dec kX12_readRecord 21 rfl) hE0.a17 (by omega) (by omega) rfl (by omega) (by decide) ?_
    refine hz_sipush (pc := 32) (v := nI 255) (hz_dec kX12_readRecord 22 rfl) (by decide) ?_
    refine hz_andB (pc := 35) (hz_dec kX12_readRecord 23 rfl) ?_
    refine hz_bipush (pc := 36) (v := nI 8) (hz_dec kX12_readRecord 24 rfl) (by decide) ?_
    refine hz_ishl (pc := 38) (hz_dec kX12_readRecord 25 rfl) ?_
    refine hz_aloadn (pc := 39) 2 (hz_dec kX12_readRecord 26 rfl) rfl ?_
    refine hz_get (pc := 40) (v := .ref (B + 17)) (hz_dec kX12_readRecord 27 rfl) fo_X12_62 hO0 h8 (by omega) (hF0.2 19 (by decide) (by decide)) ?_
    refine hz_iloadn (pc := 43) 0 (hz_dec kX12_readRecord 28 rfl) rfl ?_
    refine hz_iconst (pc := 44) (v := nI 1) (hz_dec kX12_readRecord 29 rfl) (by decide) ?_
    refine hz_addN (pc := 45) (hz_dec kX12_readRecord 30 rfl) ?_
    refine hz_bald (pc := 46) (j := ((12288 * v) + (ksN N.1)) + 1) (hz_dec kX12_readRecord 31 rfl) hE0.a17 (by omega) (by omega) rfl (by omega) (by decide) ?_
    refine hz_sipush (pc := 47) (v := nI 255) (hz_dec kX12_readRecord 32 rfl) (by decide) ?_
    refine hz_andB (pc := 50) (hz_dec kX12_readRecord 33 rfl) ?_
    refine hz_ior (pc := 51) (hz_dec kX12_readRecord 34 rfl) ?_
    refine hz_eqi (pc := 52) (show _ = nI (rdN N.1) by rw [rd_two]; unfold rdN; rw [bn_nat_c (g := ksD N.1) (b := ksN N.1) 2 (fun i hi => by rw [show 12288 * v + ksN N.1 + i = 12288 * v + (ksN N.1 + i) by omega, p2 _ (by omega)])]) ?_
    refine hz_istore (pc := 52) (i := 4) (lo2 := [(4, .int (nI (rdN N.1))), (3, .int (nI ((12288 * v) + (ksN N.1)))), (2, .int (nI (ksN N.1))), (0, .ref B), (1, .int (nI v))]) (hz_dec kX12_readRecord 35 rfl) (by decide) rfl ?_
    refine hz_iload (pc := 54) 0 (hz_dec kX12_readRecord 36 rfl) rfl ?_
    refine hz_z_eq (pc := 56) (tgt := 80) (hz_dec kX12_readRecord 37 rfl) (by decide) (by omega) (fun h2 => ?_) (fun h2 => ?_)
    · skip
      have e0 : rdO N.1 = false := decide_eq_false (fun c => c.2.1 h2)
      refine hz_iconst (pc := 80) (v := nI 0) (hz_dec kX12_readRecord 48 rfl) (by decide) ?_
      exact hz_zret (pc := 81) (hz_dec kX12_readRecord 49 rfl) rfl rfl ⟨by rw [e0]; rfl, rfl, mfr.rf hk0.1, hE0, agV.rf, cvW.rf, fun c => (by rw [e0] at c; cases c), fun _ => hR⟩
    · skip
      refine hz_iload (pc := 59) 0 (hz_dec kX12_readRecord 38 rfl) rfl ?_
      refine hz_sipush (pc := 61) (v := nI 3994) (hz_dec kX12_readRecord 39 rfl) (by decide) ?_
      refine hz_n_gt (pc := 64) (tgt := 80) (hz_dec kX12_readRecord 40 rfl) (by decide) (by omega) (by omega) (fun h3 => ?_) (fun h3 => ?_)
      · skip
        have e0 : rdO N.1 = false := decide_eq_false (fun c => absurd c.2.2.1 (by omega))
        refine hz_iconst (pc := 80) (v := nI 0) (hz_dec kX12_readRecord 48 rfl) (by decide) ?_
        exact hz_zret (pc := 81) (hz_dec kX12_readRecord 49 rfl) rfl rfl ⟨by rw [e0]; rfl, rfl, mfr.rf hk0.1, hE0, agV.rf, cvW.rf, fun c => (by rw [e0] at c; cases c), fun _ => hR⟩
      · skip
        refine hz_iloadn (pc := 67) 2 (hz_dec kX12_readRecord 41 rfl) rfl ?_
        refine hz_iload (pc := 68) 0 (hz_dec kX12_readRecord 42 rfl) rfl ?_
        refine hz_addN (pc := 70) (hz_dec kX12_readRecord 43 rfl) ?_
        refine hz_bipush (pc := 71) (v := nI 6) (hz_dec kX12_readRecord 44 rfl) (by decide) ?_
        refine hz_addN (pc := 73) (hz_dec kX12_readRecord 45 rfl) ?_
        refine hz_sipush (pc := 74) (v := nI 12288) (hz_dec kX12_readRecord 46 rfl) (by decide) ?_
        refine hz_n_le (pc := 77) (tgt := 82) (hz_dec kX12_readRecord 47 rfl) (by decide) (by omega) (by omega) (fun h4 => ?_) (fun h4 => ?_)
        · skip
          refine hz_aloadn (pc := 82) 3 (hz_dec kX12_readRecord 50 rfl) rfl ?_
          refine hz_get (pc := 83) (v := .ref (B + 68)) (hz_dec kX12_readRecord 51 rfl) fo_X12_224 hO0 h8 (by omega) (hF0.2 77 (by decide) (by decide)) ?_
          refine hz_iconst (pc := 86) (v := nI 0) (hz_dec kX12_readRecord 52 rfl) (by decide) ?_
          refine hz_iloadn (pc := 87) 2 (hz_dec kX12_readRecord 53 rfl) rfl ?_
          refine hz_bipush (pc := 88) (v := nI 8) (hz_dec kX12_readRecord 54 rfl) (by decide) ?_
          refine hz_ishr (pc := 90) (hz_dec kX12_readRecord 55 rfl) ?_
          refine hz_i2b (pc := 91) (hz_dec kX12_readRecord 56 rfl) ?_
          refine hz_bast (pc := 92) (j := 0) (hz_dec kX12_readRecord 57 rfl) hE0.a68 (by omega) (by omega) rfl (by omega) (by decide) ?_
          refine hz_aloadn (pc := 93) 3 (hz_dec kX12_readRecord 58 rfl) rfl ?_
          refine hz_get (pc := 94) (v := .ref (B + 68)) (hz_dec kX12_readRecord 59 rfl) fo_X12_224 (hz_mne hO0 (by omega)) h8 (by omega) (hF0.2 77 (by decide) (by decide)) ?_
          refine hz_iconst (pc := 97) (v := nI 1) (hz_dec kX12_readRecord 60 rfl) (by decide) ?_
          refine hz_iloadn (pc := 98) 2 (hz_dec kX12_readRecord 61 rfl) rfl ?_
          refine hz_i2b (pc := 99) (hz_dec kX12_readRecord 62 rfl) ?_
          refine hz_bast (pc := 100) (j := 1) (hz_dec kX12_readRecord 63 rfl) (va_up_self _ _ _) (by omega) (by omega) rfl (by omega) (by decide) ?_
          have hb4 : rdN N.1 ≤ 3994 := by omega
          have hb5 : ksN N.1 + rdN N.1 + 6 ≤ 12288 := by omega
          have hsb := sb_sh (p := ksN N.1) (by omega)
          have hf1 : mfr B [] [68] M0 (va_up (va_up M0 (B + 68) (.inl (1, 4000, .inl (upd (fA M0 B 68) 0 ((((nI (ksN N.1)) >>> ((nI (8)) &&& 31)).toInt8.toInt32).toInt8.toInt32))))) (B + 68) (.inl (1, 4000, .inl (upd (upd (fA M0 B 68) 0 ((((nI (ksN N.1)) >>> ((nI (8)) &&& 31)).toInt8.toInt32).toInt8.toInt32)) 1 (((nI (ksN N.1)).toInt8.toInt32).toInt8.toInt32))))) := ((mfr.rf hk0.1).upA (o := 68) rfl (by decide)).upA (o := 68) rfl (by decide)
          have hE1 : mdE (va_up (va_up M0 (B + 68) (.inl (1, 4000, .inl (upd (fA M0 B 68) 0 ((((nI (ksN N.1)) >>> ((nI (8)) &&& 31)).toInt8.toInt32).toInt8.toInt32))))) (B + 68) (.inl (1, 4000, .inl (upd (upd (fA M0 B 68) 0 ((((nI (ksN N.1)) >>> ((nI (8)) &&& 31)).toInt8.toInt32).toInt8.toInt32)) 1 (((nI (ksN N.1)).toInt8.toInt32).toInt8.toInt32))))) B := (hE0.upA (by decide)).upA (by decide)
          have hrc1 : rcI (fA (va_up (va_up M0 (B + 68) (.inl (1, 4000, .inl (upd (fA M0 B 68) 0 ((((nI (ksN N.1)) >>> ((nI (8)) &&& 31)).toInt8.toInt32).toInt8.toInt32))))) (B + 68) (.inl (1, 4000, .inl (upd (upd (fA M0 B 68) 0 ((((nI (ksN N.1)) >>> ((nI (8)) &&& 31)).toInt8.toInt32).toInt8.toInt32)) 1 (((nI (ksN N.1)).toInt8.toInt32).toInt8.toInt32))))) B 68) (rdL N.1) (ksN N.1) 0 := by rw [fA_of (va_up_self _ _ _)]; exact ⟨(upd_o (by decide)).trans (upd_s.trans hsb.1), upd_s.trans hsb.2, fun j hj => absurd hj (by omega)⟩
          generalize (va_up (va_up M0 (B + 68) (.inl (1, 4000, .inl (upd (fA M0 B 68) 0 ((((nI (ksN N.1)) >>> ((nI (8)) &&& 31)).toInt8.toInt32).toInt8.toInt32))))) (B + 68) (.inl (1, 4000, .inl (upd (upd (fA M0 B 68) 0 ((((nI (ksN N.1)) >>> ((nI (8)) &&& 31)).toInt8.toInt32).toInt8.toInt32)) 1 (((nI (ksN N.1)).toInt8.toInt32).toInt8.toInt32))))) = M1 at *
          refine hz_iconst (pc := 101) (v := nI 0) (hz_dec kX12_readRecord 64 rfl) (by decide) ?_
          refine hz_istore (pc := 102) (i := 5) (lo2 := [(5, .int (nI 0)), (4, .int (nI (rdN N.1))), (3, .int (nI ((12288 * v) + (ksN N.1)))), (2, .int (nI (ksN N.1))), (0, .ref B), (1, .int (nI v))]) (hz_dec kX12_readRecord 65 rfl) (by decide) rfl ?_
          refine hz_pick (pc := 104) [0, 1, 2, 3, 4, 5] rfl ?_
          refine c_rr_1 hnn hR hv hN hup hI hb4 hb5 (fun M hfr hE hrc => ?_) (rdN N.1) 0 M1 rfl (by omega) hf1 hE1 hrc1
          obtain ⟨fs, hO, hF⟩ := id hfr.2.1
          have hk : md_k B M z := hk0.mf hfr rfl rfl
          refine hz_aloadn (pc := 137) 3 (hz_dec kX12_readRecord 85 rfl) rfl ?_
          refine hz_aloadn (pc := 138) 3 (hz_dec kX12_readRecord 86 rfl) rfl ?_
          refine hz_get (pc := 139) (v := .ref (B + 68)) (hz_dec kX12_readRecord 87 rfl) fo_X12_224 hO h8 (by omega) (hF.2 77 (by decide) (by decide)) ?_
          refine hz_iconst (pc := 142) (v := nI 0) (hz_dec kX12_readRecord 88 rfl) (by decide) ?_
          refine hz_iload (pc := 143) 0 (hz_dec kX12_readRecord 89 rfl) rfl ?_
          refine hz_iconst (pc := 145) (v := nI 2) (hz_dec kX12_readRecord 90 rfl) (by decide) ?_
          refine hz_addN (pc := 146) (hz_dec kX12_readRecord 91 rfl) ?_
          refine hz_callV (pc := 147) (a := B) (As := [.ref (B + 68), .int (nI 0), .int (nI ((rdN N.1) + 2))]) (st := []) (hz_dec kX12_readRecord 92 rfl) co_X12_326 im_X12_hashOf se_X12_hashOf rfl hO h8 (by omega) (c_hashF hk hE.s (at_ := 0) (n := rdN N.1 + 2) hE.a68 (by omega) (by omega) (by decide) (by omega)) rfl (by decide) ⟨Nat.le_refl _, Nat.le_refl _⟩ (Nat.le_of_ble_eq_true rfl) rfl (fun r9 z9 M2 hp9 => ?_)
          obtain ⟨rfl, rfl, hf2, hs2, dg, hdg, hdx⟩ := hp9
          have hm2 : mfr B [] [3, 4, 5] M M2 := mfr.ofl hk.1 hf2 rfl
          have hE2 : mdE M2 B := hE.hs hm2 hs2 rfl
          have hm02 : mfr B [] [3, 4, 5, 68] M0 M2 := (hfr.mono rfl rfl).tr (hm2.mono rfl rfl)
          have eh : sh_h (fA M B 68) 0 (rdN N.1 + 2) = shS (slS (rdL N.1) (ksN N.1)) := shS_of (rc_A (by rw [hll]; exact hrc)) (by rw [slS_len, hll])
          rw [eh] at hdx
          obtain ⟨fs2, hO2, hF2⟩ := id hm2.2.1
          refine hz_aloadn (pc := 150) 3 (hz_dec kX12_readRecord 93 rfl) rfl ?_
          refine hz_get (pc := 151) (v := .ref (B + 5)) (hz_dec kX12_readRecord 94 rfl) fo_X12_22 hO2 h8 (by omega) (hF2.2 6 (by decide) (by decide)) ?_
          refine hz_iconst (pc := 154) (v := nI 0) (hz_dec kX12_readRecord 95 rfl) (by decide) ?_
          refine hz_aloadn (pc := 155) 3 (hz_dec kX12_readRecord 96 rfl) rfl ?_
          refine hz_get (pc := 156) (v := .ref (B + 17)) (hz_dec kX12_readRecord 97 rfl) fo_X12_62 hO2 h8 (by omega) (hF2.2 19 (by decide) (by decide)) ?_
          refine hz_iloadn (pc := 159) 1 (hz_dec kX12_readRecord 98 rfl) rfl ?_
          refine hz_iconst (pc := 160) (v := nI 2) (hz_dec kX12_readRecord 99 rfl) (by decide) ?_
          refine hz_addN (pc := 161) (hz_dec kX12_readRecord 100 rfl) ?_
          refine hz_iload (pc := 162) 0 (hz_dec kX12_readRecord 101 rfl) rfl ?_
          refine hz_addN (pc := 164) (hz_dec kX12_readRecord 102 rfl) ?_
          refine hz_iconst (pc := 165) (v := nI 4) (hz_dec kX12_readRecord 103 rfl) (by decide) ?_
          refine hz_bytes hE2.a17 (by omega) (by omega) (fun hby => ?_)
          have e17 : ∀ j, j < 12288 → fA M2 B 17 (12288 * v + j) = ksD N.1 j := by rw [fA_m hm02 (by decide) rfl]; exact p2
          have eS : smB dg (fA M2 B 17) 0 (12288 * v + ksN N.1 + 2 + rdN N.1) 4 = decide (bn_int (ksD N.1) (ksN N.1 + rdN N.1 + 2) = slI (rdL N.1) (ksN N.1)) := by
            rw [smB_c (f2 := sh_dg (shS (slS (rdL N.1) (ksN N.1)))) (a2 := 0) (g2 := ksD N.1) (b2 := ksN N.1 + rdN N.1 + 2) (fun j hj => by rw [Nat.zero_add]; exact hdx j (by omega)) (fun j hj => by rw [show 12288 * v + ksN N.1 + 2 + rdN N.1 + j = 12288 * v + (ksN N.1 + rdN N.1 + 2 + j) by omega]; exact e17 _ (by omega))]
            exact seal_eq (fun j hj => by have q := hby (12288 * v + (ksN N.1 + rdN N.1 + 2 + j)) (by omega); rw [e17 _ (by omega)] at q; exact q)
          refine hz_xS (pc := 166) (As := [.ref (B + 5), .int (nI 0), .ref (B + 17), .int (nI (((12288 * v + ksN N.1) + 2) + (rdN N.1))), .int (nI 4)]) (st := []) (hz_dec kX12_readRecord 104 rfl) co_X12_456 sc_X12_sameBytes (c_sameB (i0 := 0) (j0 := 12288 * v + ksN N.1 + 2 + rdN N.1) (n := 4) hdg (by omega) (by omega) (by decide) hE2.a17 (by omega) (by omega) (by decide) (by decide) (by omega)) rfl (by decide) ⟨Nat.le_refl _, Nat.le_refl _⟩ (Nat.le_of_ble_eq_true rfl) rfl ?_
          refine hz_eqi (pc := 169) (show _ = hz_b (decide (bn_int (ksD N.1) (ksN N.1 + rdN N.1 + 2) = slI (rdL N.1) (ksN N.1))) by rw [eS]) ?_
          refine hz_if_ne (pc := 169) (tgt := 174) (hz_dec kX12_readRecord 105 rfl) (by decide) (fun h5 => ?_) (fun h5 => ?_)
          · skip
            have hsl := of_decide_eq_true (hz_b1 h5)
            refine hz_aloadn (pc := 174) 3 (hz_dec kX12_readRecord 108 rfl) rfl ?_
            refine hz_iload (pc := 175) 0 (hz_dec kX12_readRecord 109 rfl) rfl ?_
            refine hz_puti (pc := 177) (hz_dec kX12_readRecord 110 rfl) fo_X12_422 ft_X12_39 hO2 h8 (by omega) (by rw [hF2.1]; decide) ?_
            have hf3 : mfr B [39] [3, 4, 5, 35, 68] M0 (va_up M2 B (.inr (12, (List.set fs2 39 (.int (nI (rdN N.1))))))) := (hm02.mono rfl rfl).upO (k := 39) hO2 hF2 rfl rfl
            have hE3 : mdE (va_up M2 B (.inr (12, (List.set fs2 39 (.int (nI (rdN N.1))))))) B := hE2.upO
            have h393 : fdB (va_up M2 B (.inr (12, (List.set fs2 39 (.int (nI (rdN N.1))))))) B 39 = some (.int (nI (rdN N.1))) := by rw [fdB_of (va_up_self _ _ _), List.getElem?_set_self (by rw [hF2.1]; decide)]
            have h683 : ∀ j, j < rdN N.1 → fA (va_up M2 B (.inr (12, (List.set fs2 39 (.int (nI (rdN N.1))))))) B 68 (2 + j) = lf (rdL N.1) j := by rw [fA_c (va_up_ne _ _ (by omega)), fA_m hm2 (by decide) rfl]; exact hrc.2.2
            generalize (va_up M2 B (.inr (12, (List.set fs2 39 (.int (nI (rdN N.1))))))) = M3 at *
            refine hz_iconst (pc := 180) (v := nI 0) (hz_dec kX12_readRecord 111 rfl) (by decide) ?_
            refine hz_istore (pc := 181) (i := 5) (lo2 := [(5, .int (nI 0)), (4, .int (nI (rdN N.1))), (3, .int (nI (12288 * v + ksN N.1))), (2, .int (nI (ksN N.1))), (0, .ref B), (1, .int (nI v))]) (hz_dec kX12_readRecord 112 rfl) (by decide) rfl ?_
            refine hz_pick (pc := 183) [0, 1, 2, 3, 4, 5] rfl ?_
            refine c_rr_2 hnn hR hv hN hup hI hb4 hb5 (fun M9 hf9 hE9 hA9 h399 => ?_) (rdN N.1) 0 M3 rfl (by omega) hf3 hE3 h683 h393 (fun j hj => absurd hj (by omega))
            obtain ⟨fs9, hO9, hF9⟩ := id hf9.2.1
            have hk9 : md_k B M9 z := hk0.mf hf9 rfl rfl
            have hbp := hI.1.p hI.2.1
            obtain ⟨b1, b2, b3, b4, b5, b6, b7, b8⟩ := id hbp
            have hcv9 : cvK M0 M9 B v (ksB N.1) (enB (ksB N.1)) := cvK.mf hf9 rfl rfl rfl rfl
            have h01b := h01.mf hf9 rfl rfl
            obtain ⟨s1, s2, s3, s4, ⟨s5a, s5b, s5c⟩, s6, s7, s9⟩ := id h01b
            refine hz_aloadn (pc := 212) 3 (hz_dec kX12_readRecord 128 rfl) rfl ?_
            refine hz_iloadn (pc := 213) 4 (hz_dec kX12_readRecord 129 rfl) rfl ?_
            refine hz_iconst (pc := 214) (v := nI 0) (hz_dec kX12_readRecord 130 rfl) (by decide) ?_
            refine hz_callV (pc := 215) (a := B) (As := [.int (nI v), .int (nI 0)]) (st := []) (hz_dec kX12_readRecord 131 rfl) co_X12_603 im_X12_judgeBody se_X12_judgeBody rfl hO9 h8 (by omega) (c_jBod2 (od := false) hk9 hE9 hA9 (by omega) (by rw [hll]; exact h399) hv6 (by omega) (by omega) (by omega) s5a s5b b3 b4 s5c b6 b7 s7 s3 (by omega)) rfl (by decide) ⟨Nat.le_refl _, Nat.le_refl _⟩ (Nat.le_of_ble_eq_true rfl) rfl (fun r9 z9 M4 hp9 => ?_)
            obtain ⟨rfl, rfl, hf4, hE4, hcv4, h53, h61⟩ := hp9
            refine hz_eqi (pc := 218) (show _ = nI (jBk (ksB N.1) (enB (ksB N.1)) (rdL N.1) false) from rfl) ?_
            have h53 : ¬ jBk (ksB N.1) (enB (ksB N.1)) (rdL N.1) false = 1 → isA (fA M4 B 53) 0 (haS (rdL N.1)) := h53
            have h61 : jBk (ksB N.1) (enB (ksB N.1)) (rdL N.1) false = 0 → fdB M4 B 61 = some (.int (nI (pvF (ksB N.1) (rdL N.1)))) := h61
            have hj31 := jBk_lt (ksB N.1) (enB (ksB N.1)) (rdL N.1) false
            have hm04 : mfr B [16, 39, 53, 54, 55, 59, 61] [3, 4, 5, 6, 7, 8, 9, 10, 11, 14, 15, 35, 42, 43, 44, 45, 46, 47, 48, 49, 50, 52, 53, 68] M0 M4 := (hf9.mono rfl rfl).tr (hf4.mono rfl rfl)
            have hcv04 : cvK M0 M4 B v (ksB N.1) (enB (ksB N.1)) := hcv9.tr hcv4
            refine hz_z_eq (pc := 218) (tgt := 223) (hz_dec kX12_readRecord 132 rfl) (by decide) (by omega) (fun h6 => ?_) (fun h6 => ?_)
            · skip
              have hlw := (jBk_0 h6).1.len
              have hok : rdO N.1 = true := decide_eq_true ⟨by omega, by omega, by omega, by omega, hsl, h6⟩
              refine hz_pick (pc := 223) [0, 1, 2, 3, 4] rfl ?_
              exact c_rr_5 hnn hR hv hN hup hI hb4 hb5 hok hm04 hE4 hcv04 (by rw [fA_m hf4 (by decide) rfl]; exact hA9) ((hf4.2.2 39 rfl).trans h399) (h53 (by rw [h6]; decide)) (h61 h6)
            · skip
              have e0 : rdO N.1 = false := decide_eq_false (fun c => absurd c.2.2.2.2.2 (by omega))
              refine hz_iconst (pc := 221) (v := nI 0) (hz_dec kX12_readRecord 133 rfl) (by decide) ?_
              exact hz_zret (pc := 222) (hz_dec kX12_readRecord 134 rfl) rfl rfl ⟨by rw [e0]; rfl, rfl, hm04.mono rfl rfl, hE4, agV.mf hm04 rfl rfl, hcv04.w, fun c => (by rw [e0] at c; cases c), fun _ => hR.cv hm04 hE4 (cvK_all hR hnn hN hcv04) rfl rfl rfl rfl rfl rfl rfl rfl rfl rfl rfl rfl rfl rfl rfl rfl rfl rfl ⟩
          · skip
            have e0 : rdO N.1 = false := decide_eq_false (fun c => absurd c.2.2.2.2.1 (of_decide_eq_false (hz_b0 h5)))
            refine hz_iconst (pc := 172) (v := nI 0) (hz_dec kX12_readRecord 106 rfl) (by decide) ?_
            exact hz_zret (pc := 173) (hz_dec kX12_readRecord 107 rfl) rfl rfl ⟨by rw [e0]; rfl, rfl, hm02.mono rfl rfl, hE2, agV.mf hm02 rfl rfl, (cvK.mf hm02 rfl rfl rfl rfl (bl := []) (en := [])).w, fun c => (by rw [e0] at c; cases c), fun _ => hR.sc hm02 hE2 rfl rfl rfl rfl rfl rfl rfl rfl rfl rfl rfl rfl rfl rfl rfl rfl rfl rfl rfl⟩
        · skip
          have e0 : rdO N.1 = false := decide_eq_false (fun c => absurd c.2.2.2.1 (by omega))
          refine hz_iconst (pc := 80) (v := nI 0) (hz_dec kX12_readRecord 48 rfl) (by decide) ?_
          exact hz_zret (pc := 81) (hz_dec kX12_readRecord 49 rfl) rfl rfl ⟨by rw [e0]; rfl, rfl, mfr.rf hk0.1, hE0, agV.rf, cvW.rf, fun c => (by rw [e0] at c; cases c), fun _ => hR⟩
  · skip
    have e0 : rdO N.1 = false := decide_eq_false (fun c => absurd c.1 (by omega))
    refine hz_iconst (pc := 24) (v := nI 0) (hz_dec kX12_readRecord 16 rfl) (by decide) ?_
    exact hz_zret (pc := 25) (hz_dec kX12_readRecord 17 rfl) rfl rfl ⟨by rw [e0]; rfl, rfl, mfr.rf hk0.1, hE0, agV.rf, cvW.rf, fun c => (by rw [e0] at c; cases c), fun _ => hR⟩
