/-! the reference: judgeBody, the coins -/
theorem mnS.mv {M M2 : hz_M} {B v : Nat} {up fz : Int32} {S : ks_S} {po : List po_P} {ks os : List Nat} (h : mnS M B v up S fz po) (f : mfr B ks os M M2) (hcv : cvX M2 B v (ksB S) (enB (ksB S))) (ho : [16, 17, 18, 19, 20, 21, 24, 25, 26, 27, 28, 29, 30, 31, 32, 33, 34, 38, 39, 40, 41, 51, 54, 55, 56, 57, 58].all (fun o => !os.elem o) = true) : mnS M2 B v up S fz po := by
  have hoo := List.all_eq_true.mp ho
  have no : ∀ o, o ∈ [16, 17, 18, 19, 20, 21, 24, 25, 26, 27, 28, 29, 30, 31, 32, 33, 34, 38, 39, 40, 41, 51, 54, 55, 56, 57, 58] → os.elem o = false := fun o h9 => by have q := hoo o h9; cases e : os.elem o with
    | false => rfl
    | true => rw [e] at q; cases q
  obtain ⟨h1, h2, h3, h4, h5, h6, -, h7⟩ := h
  refine ⟨by rw [fA_m f (by decide) (no 16 (by decide))]; exact h1, by rw [fA_m f (by decide) (no 17 (by decide))]; exact h2, by rw [fA_m f (by decide) (no 18 (by decide))]; exact h3, by rw [fA_m f (by decide) (no 19 (by decide))]; exact h4, h5.mf f ?_, h6.mf f ?_, hcv, by unfold mnP; rw [fA_m f (by decide) (no 24 (by decide))]; exact h7⟩
  · refine List.all_eq_true.mpr (fun o h9 => ?_)
    rw [no o (by revert h9; revert o; decide)]
    rfl
  · refine List.all_eq_true.mpr (fun o h9 => ?_)
    rw [no o (by revert h9; revert o; decide)]
    rfl
theorem blF_lt {bl : List bk_B} {s : by_L} {k : Nat} (hk : k < bl.length) (h : haS (bBy bl k) = s) : blF bl s < bl.length := by
  by_cases c : blF bl s < bl.length
  · exact c
  · have hle := fsI_le (fun k => smS (haS (bBy bl k)) s) bl.length
    have hall := fsI_all (p := fun k => smS (haS (bBy bl k)) s) (n := bl.length) (by unfold blF at c; omega) k hk
    exact absurd h (of_decide_eq_false hall)
set_option maxHeartbeats 4000000 in
set_option maxRecDepth 100000 in
theorem c_jBod2 {κ : hz_C} {z : Nat} {M : hz_M} {B : Nat} (hk0 : md_k B M z) (hE0 : mdE M B) {l : by_L} (hA0 : isA (fA M B 35) 0 l) (hl4 : l.length ≤ 4000) (h39 : fdB M B 39 = some (.int (nI l.length))) {v tip : Nat} {bl : List bk_B} {en : List en_E} (hv : v < 6) (hnb : bl.length ≤ 128) (hlen : bl.length ≤ en.length) (hen : en.length ≤ bl.length + 16) (hR0 : rvX (fA M B) v bl.length en) (hN0 : nbX (fA M B) (fL M B) v bl tip) (hwf : wfE en) (hbx : blX bl) (h240 : ∀ k, k < bl.length → (bBy bl k).length ≤ 200 ∨ fA M B 24 (128 * v + k) ≠ -1) (hcb : ∀ k, k < bl.length → cbX bl en k) (hcl : ∀ k, k < bl.length → (coAt bl en k).length ≤ 360 ∧ coHt (coAt bl en k)) (hcv : cvX M B v bl en) {nx : Nat} (h18 : fA M B 18 v = nI nx) (hnx : nx < 20000) {od : Bool} : hz_Mt κ xX12_judgeBody 9 0 0 [.ref B, .int (nI v), .int (nI (if od then 1 else 0))] z M (fun r z2 M2 => some (.int (nI (jBk bl en l (nrB nx l.length od)))) = r ∧ z = z2 ∧ mfr B [16, 53, 54, 55, 59, 61] [3, 4, 5, 6, 7, 8, 9, 10, 11, 14, 15, 42, 43, 44, 45, 46, 47, 48, 49, 50, 52, 53] M M2 ∧ mdE M2 B ∧ cvK M M2 B v bl en ∧ (¬ jBk bl en l (nrB nx l.length od) = 1 → isA (fA M2 B 53) 0 (haS l)) ∧ (jBk bl en l (nrB nx l.length od) = 0 → fdB M2 B 61 = some (.int (nI (pvF bl l))))) := by
  refine hz_ent (lo := [(0, .ref B), (1, .int (nI v)), (2, .int (nI ((if od then 1 else 0))))]) (by decide) (Nat.le_of_ble_eq_true rfl) rfl ?_
  obtain ⟨⟨fs, hO, hF⟩, -, -, h8, hz⟩ := id hk0
  have g39 : fs[39]? = some (.int (nI l.length)) := (fdB_of hO 39).symm.trans h39
  have hod : (if od then 1 else 0) < 2 := by split <;> omega
  refine hz_aloadn (pc := 0) 0 (hz_dec kX12_judgeBody 0 rfl) rfl ?_
  refine hz_aloadn (pc := 1) 0 (hz_dec kX12_judgeBody 1 rfl) rfl ?_
  refine hz_get (pc := 2) (v := .ref (B + 35)) (hz_dec kX12_judgeBody 2 rfl) fo_X12_116 hO h8 (by omega) (hF.2 38 (by decide) (by decide)) ?_
  refine hz_iconst (pc := 5) (v := nI 0) (hz_dec kX12_judgeBody 3 rfl) (by decide) ?_
  refine hz_aloadn (pc := 6) 0 (hz_dec kX12_judgeBody 4 rfl) rfl ?_
  refine hz_get (pc := 7) (v := .int (nI (l.length))) (hz_dec kX12_judgeBody 5 rfl) fo_X12_422 hO h8 (by omega) g39 ?_
  refine hz_callV (pc := 10) (a := B) (As := [.ref (B + 35), .int (nI 0), .int (nI (l.length))]) (st := []) (hz_dec kX12_judgeBody 6 rfl) co_X12_437 im_X12_isBlock se_X12_isBlock rfl hO h8 (by omega) (c_isB hO hF h8 hz hE0.a14 hE0.a35 (by omega) (by omega) (by decide) hl4) rfl (by decide) ⟨Nat.le_refl _, Nat.le_refl _⟩ (Nat.le_of_ble_eq_true rfl) rfl (fun r9 z9 M1 hp9 => ?_)
  obtain ⟨rfl, rfl, hf1, s1, pc1, hO1_, h141, hs1⟩ := hp9
  have hbn0 : bk_n (fA M B 35) l.length = bkN l := bk_n_c (fun i hi => by have q := hA0 i hi; rw [Nat.zero_add] at q; exact q)
  have hst0 : ∀ j, bk_st (fA M B 35) l.length j = bkS l j := fun j => (bk_st_c (fun i hi => by have q := hA0 i hi; rw [Nat.zero_add] at q; exact q) j).1
  rw [hbn0] at hs1
  refine hz_eqi (pc := 13) (show _ = hz_b (decide (¬ bkN l = 0)) by rw [hbn0]) ?_
  have hfm1 : mfr B [16] [14] M M1 := ⟨fun a ha => hf1 a (fun o9 ho9 => ha o9 ho9), ⟨_, hO1_, md_set hF rfl⟩, fun k hk9 => by rw [fdB_of hO1_, fdB_of hO]; exact List.getElem?_set_ne (fun c => by rw [← c] at hk9; cases hk9)⟩
  have hE1 : mdE M1 B := hE0.gen hfm1 (A := []) (E := [14]) rfl sho_n (sho_c (shoA (by decide) h141) sho_n)
  have hk1 : md_k B M1 z := hk0.mf hfm1 rfl rfl
  obtain ⟨fs1, hO1, hF1⟩ := id hfm1.2.1
  have hA1 : isA (fA M1 B 35) 0 l := by rw [fA_m hfm1 (by decide) rfl]; exact hA0
  have hN1 := hN0.mf hfm1 rfl
  have hR1 := hR0.mf hfm1 rfl
  refine hz_if_ne (pc := 13) (tgt := 18) (hz_dec kX12_judgeBody 7 rfl) (by decide) (fun h1 => ?_) (fun h1 => ?_)
  · skip
    have hW : blW l := (show ¬ bkN l = 0 from of_decide_eq_true (hz_b1 h1))
    obtain ⟨hbf1, hbf2, hbf3, hbf4, hbf5, hbf6, hbf7⟩ := hW.f
    have hln9 := hW.len
    have h16a : fdB M1 B 16 = some (.int (nI (bkN l))) := by rw [fdB_of hO1_, List.getElem?_set_self (by rw [hF.1]; decide), (hs1 hW).1]
    have h14a : ∀ j, j ≤ bkN l → fA M1 B 14 j = nI (bkS l j) := fun j hj => by rw [fA_of h141, (hs1 hW).2 j hj, hst0]
    refine hz_aloadn (pc := 18) 0 (hz_dec kX12_judgeBody 10 rfl) rfl ?_
    refine hz_aloadn (pc := 19) 0 (hz_dec kX12_judgeBody 11 rfl) rfl ?_
    refine hz_get (pc := 20) (v := .ref (B + 35)) (hz_dec kX12_judgeBody 12 rfl) fo_X12_116 hO1 h8 (by omega) (hF1.2 38 (by decide) (by decide)) ?_
    refine hz_iconst (pc := 23) (v := nI 0) (hz_dec kX12_judgeBody 13 rfl) (by decide) ?_
    refine hz_bipush (pc := 24) (v := nI 80) (hz_dec kX12_judgeBody 14 rfl) (by decide) ?_
    refine hz_callV (pc := 26) (a := B) (As := [.ref (B + 35), .int (nI 0), .int (nI 80)]) (st := []) (hz_dec kX12_judgeBody 15 rfl) co_X12_412 im_X12_twiceOf se_X12_twiceOf rfl hO1 h8 (by omega) (c_twiceOf (at_ := 0) (n := 80) hk1 hE1.s hE1.a35 (by omega) (by omega) (by decide) (by omega)) rfl (by decide) ⟨Nat.le_refl _, Nat.le_refl _⟩ (Nat.le_of_ble_eq_true rfl) rfl (fun r9 z9 M2 hp9 => ?_)
    obtain ⟨rfl, rfl, hf2, hs2, d2, hd2, hdc2⟩ := hp9
    have hfm2 : mfr B [] [3, 4, 5, 7] M1 M2 := mfr.ofl (ks := []) ⟨fs1, hO1, hF1⟩ hf2 rfl
    have hE2 : mdE M2 B := hE1.hs hfm2 hs2 rfl
    have hk2 : md_k B M2 z := hk1.mf hfm2 rfl rfl
    obtain ⟨fs2, hO2, hF2⟩ := id hfm2.2.1
    have hA2 : isA (fA M2 B 35) 0 l := by rw [fA_m hfm2 (by decide) rfl]; exact hA1
    have hN2 := hN1.mf hfm2 rfl
    have hR2 := hR1.mf hfm2 rfl
    rw [shS_of (hdS_A hA1 (by omega)) (hdS_len l)] at hdc2
    refine hz_aloadn (pc := 29) 0 (hz_dec kX12_judgeBody 16 rfl) rfl ?_
    refine hz_aloadn (pc := 30) 0 (hz_dec kX12_judgeBody 17 rfl) rfl ?_
    refine hz_get (pc := 31) (v := .ref (B + 53)) (hz_dec kX12_judgeBody 18 rfl) fo_X12_177 hO2 h8 (by omega) (hF2.2 62 (by decide) (by decide)) ?_
    refine hz_iconst (pc := 34) (v := nI 0) (hz_dec kX12_judgeBody 19 rfl) (by decide) ?_
    refine hz_bytes hd2 (by omega) (by omega) (fun hbd2 => ?_)
    refine hz_callV (pc := 35) (a := B) (As := [.ref (B + 53), .int (nI 0)]) (st := []) (hz_dec kX12_judgeBody 20 rfl) co_X12_415 im_X12_keepDigest se_X12_keepDigest rfl hO2 h8 (by omega) (c_keepD (at_ := 0) hO2 hF2 h8 hz hd2 hbd2 hE2.a53 (by omega) (by omega) (by decide) (by omega) (by omega)) rfl (by decide) ⟨Nat.le_refl _, Nat.le_refl _⟩ (Nat.le_of_ble_eq_true rfl) rfl (fun r9 z9 M3 hp9 => ?_)
    obtain ⟨rfl, rfl, f53, hw1, -, hM3⟩ := hp9
    have hfm3 : mfr B [] [53] M2 M3 := hM3 ▸ (mfr.rf (ks := []) (os := [53]) ⟨fs2, hO2, hF2⟩).upA (o := 53) rfl (by decide)
    have hE3 : mdE M3 B := hM3 ▸ hE2.upA (by decide)
    have hk3 : md_k B M3 z := hk2.mf hfm3 rfl rfl
    obtain ⟨fs3, hO3, hF3⟩ := id hfm3.2.1
    have hA3 : isA (fA M3 B 35) 0 l := by rw [fA_m hfm3 (by decide) rfl]; exact hA2
    have hN3 := hN2.mf hfm3 rfl
    have hR3 := hR2.mf hfm3 rfl
    have h53_ : M3 (B + 53) = .inl (1, 32, .inl f53) := by rw [← hM3]; exact va_up_self _ _ _
    have hAH3 : isA (fA M3 B 53) 0 (haS l) := by rw [fA_of h53_]; exact isA_dg (fun j hj => by rw [hw1 j hj, hdc2 j hj])
    have hd3 : M3 (B + 5) = .inl (1, 32, .inl d2) := (hfm3.at 5 (by decide) rfl).trans hd2
    have hg3 : mfr B [16] [3, 4, 5, 7, 10, 11, 14, 15, 53] M M3 := ((hfm1.mono rfl rfl).tr (hfm2.mono rfl rfl)).tr (hfm3.mono rfl rfl)
    refine hz_aloadn (pc := 38) 0 (hz_dec kX12_judgeBody 21 rfl) rfl ?_
    refine hz_iloadn (pc := 39) 1 (hz_dec kX12_judgeBody 22 rfl) rfl ?_
    refine hz_aloadn (pc := 40) 0 (hz_dec kX12_judgeBody 23 rfl) rfl ?_
    refine hz_get (pc := 41) (v := .ref (B + 53)) (hz_dec kX12_judgeBody 24 rfl) fo_X12_177 hO3 h8 (by omega) (hF3.2 62 (by decide) (by decide)) ?_
    refine hz_iconst (pc := 44) (v := nI 0) (hz_dec kX12_judgeBody 25 rfl) (by decide) ?_
    refine hz_xV (pc := 45) (a := B) (As := [.int (nI v), .ref (B + 53), .int (nI 0)]) (st := []) (hz_dec kX12_judgeBody 26 rfl) co_X12_531 im_X12_findBlock se_X12_findBlock rfl hO3 h8 (by omega) (c_mfB hfm3.2.1 hE3 h8 hz hv hnb hN3 hE3.a53 (by omega) (by omega) (by decide) hAH3 (dgS_len _) (by decide)) rfl (by decide) ⟨Nat.le_refl _, Nat.le_refl _⟩ (Nat.le_of_ble_eq_true rfl) rfl ?_
    by_cases ck : blF bl (haS l) < bl.length
    · skip
      refine hz_eqi (pc := 48) (show _ = nI (blF bl (haS l)) from if_pos ck) ?_
      refine hz_z_lt (pc := 48) (tgt := 53) (hz_dec kX12_judgeBody 27 rfl) (by decide) (by omega) ?_
      have e9 : jBk bl en l (nrB nx l.length od) = 2 := by unfold jBk; rw [if_neg hW, if_pos ck]
      refine hz_iconst (pc := 51) (v := nI 2) (hz_dec kX12_judgeBody 28 rfl) (by decide) ?_
      exact hz_iret (pc := 52) (hz_dec kX12_judgeBody 29 rfl) rfl ⟨by rw [e9], rfl, hg3.mono rfl rfl, hE3, cvK.mf hg3 rfl rfl rfl rfl, by rw [e9]; exact fun _ => hAH3, by rw [e9]; exact fun q9 => absurd q9 (by decide)⟩
    · skip
      refine hz_eqi (pc := 48) (show _ = (-1 : Int32) from if_neg ck) ?_
      refine hz_if_lt (pc := 48) (tgt := 53) (hz_dec kX12_judgeBody 27 rfl) (by decide) (fun h2 => ?_) (fun h2 => ?_)
      · skip
        refine hz_aloadn (pc := 53) 0 (hz_dec kX12_judgeBody 30 rfl) rfl ?_
        refine hz_get (pc := 54) (v := .ref (B + 35)) (hz_dec kX12_judgeBody 31 rfl) fo_X12_116 hO3 h8 (by omega) (hF3.2 38 (by decide) (by decide)) ?_
        refine hz_bipush (pc := 57) (v := nI 68) (hz_dec kX12_judgeBody 32 rfl) (by decide) ?_
        refine hz_xS (pc := 59) (As := [.ref (B + 35), .int (nI 68)]) (st := []) (hz_dec kX12_judgeBody 33 rfl) co_X12_376 sc_X12_intAt (c_intAt hE3.a35 (by omega) (by omega) (by decide) (by omega)) rfl (by decide) ⟨Nat.le_refl _, Nat.le_refl _⟩ (Nat.le_of_ble_eq_true rfl) rfl ?_
        refine hz_eqi (pc := 62) (show _ = bn_int (lf l) 68 by have q := int_of hA3 (i := 68) (by omega); rw [Nat.zero_add] at q; exact q) ?_
        refine hz_istoren (pc := 62) (i := 3) (lo2 := [(3, .int (bn_int (lf l) 68)), (0, .ref B), (1, .int (nI v)), (2, .int (nI ((if od then 1 else 0))))]) (hz_dec kX12_judgeBody 34 rfl) rfl (by decide) rfl ?_
        refine hz_aloadn (pc := 63) 1 (hz_dec kX12_judgeBody 35 rfl) rfl ?_
        refine hz_iloadn (pc := 64) 0 (hz_dec kX12_judgeBody 36 rfl) rfl ?_
        refine hz_callV (pc := 65) (a := B) (As := [.int (bn_int (lf l) 68)]) (st := []) (hz_dec kX12_judgeBody 37 rfl) co_X12_535 im_X12_areRight se_X12_areRight rfl hO3 h8 (by omega) (c_areRight hO3 hF3 h8 hz hE3.t) rfl (by decide) ⟨Nat.le_refl _, Nat.le_refl _⟩ (Nat.le_of_ble_eq_true rfl) rfl (fun r9 z9 M4 hp9 => ?_)
        obtain ⟨rfl, rfl, hf4, ht4, -⟩ := hp9
        have hfm4 : mfr B [] [10, 11] M3 M4 := mfr.ofl (ks := []) ⟨fs3, hO3, hF3⟩ hf4 rfl
        have hE4 : mdE M4 B := hE3.ht hfm4 ht4 rfl
        have hk4 : md_k B M4 z := hk3.mf hfm4 rfl rfl
        obtain ⟨fs4, hO4, hF4⟩ := id hfm4.2.1
        have hA4 : isA (fA M4 B 35) 0 l := by rw [fA_m hfm4 (by decide) rfl]; exact hA3
        have hN4 := hN3.mf hfm4 rfl
        have hR4 := hR3.mf hfm4 rfl
        have hg4 : mfr B [16] [3, 4, 5, 7, 10, 11, 14, 15, 53] M M4 := hg3.tr (hfm4.mono rfl rfl)
        have hAH4 : isA (fA M4 B 53) 0 (haS l) := by rw [fA_m hfm4 (by decide) rfl]; exact hAH3
        have hd4 : M4 (B + 5) = .inl (1, 32, .inl d2) := (hfm4.at 5 (by decide) rfl).trans hd3
        refine hz_if_eq (pc := 68) (tgt := 79) (hz_dec kX12_judgeBody 38 rfl) (by decide) (fun h3 => ?_) (fun h3 => ?_)
        · skip
          have e9 : jBk bl en l (nrB nx l.length od) = 3 := by unfold jBk; rw [if_neg hW, if_neg ck, if_pos (show wkS (hdS l) = false by unfold wkS; rw [hdS_68, hz_b0 h3, Bool.false_and])]
          refine hz_iconst (pc := 79) (v := nI 3) (hz_dec kX12_judgeBody 43 rfl) (by decide) ?_
          exact hz_iret (pc := 80) (hz_dec kX12_judgeBody 44 rfl) rfl ⟨by rw [e9], rfl, hg4.mono rfl rfl, hE4, cvK.mf hg4 rfl rfl rfl rfl, by rw [e9]; exact fun _ => hAH4, by rw [e9]; exact fun q9 => absurd q9 (by decide)⟩
        · skip
          have hRt : tgR (bn_int (lf l) 68) = true := hz_b1 h3
          have r1 := (tgR_b hRt).1
          have r2 := (tgR_b hRt).2.1
          refine hz_aloadn (pc := 71) 1 (hz_dec kX12_judgeBody 39 rfl) rfl ?_
          refine hz_iloadn (pc := 72) 0 (hz_dec kX12_judgeBody 40 rfl) rfl ?_
          refine hz_callV (pc := 73) (a := B) (As := [.int (bn_int (lf l) 68)]) (st := []) (hz_dec kX12_judgeBody 41 rfl) co_X12_445 im_X12_meets se_X12_meets rfl hO4 h8 (by omega) (c_meets hO4 hF4 h8 hz hE4.t hd4 hdc2 (by omega) (by omega)) rfl (by decide) ⟨Nat.le_refl _, Nat.le_refl _⟩ (Nat.le_of_ble_eq_true rfl) rfl (fun r9 z9 M5 hp9 => ?_)
          obtain ⟨rfl, rfl, hf5, ht5, -⟩ := hp9
          have hfm5 : mfr B [] [10, 11] M4 M5 := mfr.ofl (ks := []) ⟨fs4, hO4, hF4⟩ hf5 rfl
          have hE5 : mdE M5 B := hE4.ht hfm5 ht5 rfl
          have hk5 : md_k B M5 z := hk4.mf hfm5 rfl rfl
          obtain ⟨fs5, hO5, hF5⟩ := id hfm5.2.1
          have hA5 : isA (fA M5 B 35) 0 l := by rw [fA_m hfm5 (by decide) rfl]; exact hA4
          have hN5 := hN4.mf hfm5 rfl
          have hR5 := hR4.mf hfm5 rfl
          have hg5 : mfr B [16] [3, 4, 5, 7, 10, 11, 14, 15, 53] M M5 := hg4.tr (hfm5.mono rfl rfl)
          have hAH5 : isA (fA M5 B 53) 0 (haS l) := by rw [fA_m hfm5 (by decide) rfl]; exact hAH4
          refine hz_if_ne (pc := 76) (tgt := 81) (hz_dec kX12_judgeBody 42 rfl) (by decide) (fun h4 => ?_) (fun h4 => ?_)
          · skip
            have hwk : wkS (hdS l) = true := by unfold wkS; rw [hdS_68, hRt, hz_b1 h4]; rfl
            have h165 : fdB M5 B 16 = some (.int (nI (bkN l))) := (hfm5.2.2 16 rfl).trans ((hfm4.2.2 16 rfl).trans ((hfm3.2.2 16 rfl).trans ((hfm2.2.2 16 rfl).trans h16a)))
            have h145 : ∀ j, j ≤ bkN l → fA M5 B 14 j = nI (bkS l j) := by rw [fA_m hfm5 (by decide) rfl, fA_m hfm4 (by decide) rfl, fA_m hfm3 (by decide) rfl, fA_m hfm2 (by decide) rfl]; exact h14a
            refine hz_aloadn (pc := 81) 1 (hz_dec kX12_judgeBody 45 rfl) rfl ?_
            refine hz_aloadn (pc := 82) 1 (hz_dec kX12_judgeBody 46 rfl) rfl ?_
            refine hz_get (pc := 83) (v := .ref (B + 35)) (hz_dec kX12_judgeBody 47 rfl) fo_X12_116 hO5 h8 (by omega) (hF5.2 38 (by decide) (by decide)) ?_
            refine hz_callV (pc := 86) (a := B) (As := [.ref (B + 35)]) (st := []) (hz_dec kX12_judgeBody 48 rfl) co_X12_441 im_X12_findRoot se_X12_findRoot rfl hO5 h8 (by omega) (c_findRoot (T := fun q => bkT l q) hk5 hE5.a35 (by omega) (by omega) (ne_off (by decide)) (by decide) hE5.a14 (by omega) h145 (fun j hj => by have tj := hW.t hj; have tA := hW.A hA5 hj; rw [Nat.zero_add] at tA; exact ⟨tA, tj.1, by omega⟩) (by omega) hE5.s h165 hE5.a15) rfl (by decide) ⟨Nat.le_refl _, Nat.le_refl _⟩ (Nat.le_of_ble_eq_true rfl) rfl (fun r9 z9 M6 hp9 => ?_)
            obtain ⟨rfl, rfl, hfm6, hs6, ⟨g15, hg15⟩, d6, hd6, hrt⟩ := hp9
            have hE6 : mdE M6 B := hE5.gen hfm6 (A := [3, 4, 5, 6, 7, 8, 9]) (E := [15]) rfl hs6.sho (sho_c (shoA (by decide) hg15) sho_n)
            have hk6 : md_k B M6 z := hk5.mf hfm6 rfl rfl
            obtain ⟨fs6, hO6, hF6⟩ := id hfm6.2.1
            have hA6 : isA (fA M6 B 35) 0 l := by rw [fA_m hfm6 (by decide) rfl]; exact hA5
            have hN6 := hN5.mf hfm6 rfl
            have hR6 := hR5.mf hfm6 rfl
            have hg6 : mfr B [16] [3, 4, 5, 7, 10, 11, 14, 15, 53] M M6 := hg5.tr (hfm6.mono rfl rfl)
            have hAH6 : isA (fA M6 B 53) 0 (haS l) := by rw [fA_m hfm6 (by decide) rfl]; exact hAH5
            have h166 := (hfm6.2.2 16 rfl).trans h165
            have h146 : ∀ j, j ≤ bkN l → fA M6 B 14 j = nI (bkS l j) := by rw [fA_m hfm6 (by decide) rfl]; exact h145
            refine hz_aloadn (pc := 89) 1 (hz_dec kX12_judgeBody 49 rfl) rfl ?_
            refine hz_aloadn (pc := 90) 1 (hz_dec kX12_judgeBody 50 rfl) rfl ?_
            refine hz_get (pc := 91) (v := .ref (B + 35)) (hz_dec kX12_judgeBody 51 rfl) fo_X12_116 hO6 h8 (by omega) (hF6.2 38 (by decide) (by decide)) ?_
            refine hz_bipush (pc := 94) (v := nI 32) (hz_dec kX12_judgeBody 52 rfl) (by decide) ?_
            have hrl : (rtS l).length = 32 := rtS_len hW
            refine hz_xV (pc := 96) (a := B) (As := [.ref (B + 35), .int (nI 32)]) (st := []) (hz_dec kX12_judgeBody 53 rfl) co_X12_538 im_X12_isDigest se_X12_isDigest rfl hO6 h8 (by omega) (c_isDg hO6 hF6 h8 hz hd6 hE6.a35 (by omega) (by omega) (by decide) (by omega)) rfl (by decide) ⟨Nat.le_refl _, Nat.le_refl _⟩ (Nat.le_of_ble_eq_true rfl) rfl ?_
            refine hz_eqi (pc := 99) (show _ = hz_b (smS (rtS l) (subL l 32 32)) by rw [smS_of hrt (isA_sub (i := 32) hA6 (by omega)) hrl (subL_len _ _ _)]; rfl) ?_
            refine hz_if_ne (pc := 99) (tgt := 104) (hz_dec kX12_judgeBody 54 rfl) (by decide) (fun h5 => ?_) (fun h5 => ?_)
            · skip
              have hro : rtS l = subL l 32 32 := of_decide_eq_true (hz_b1 h5)
              refine hz_iconst (pc := 104) (v := nI 0) (hz_dec kX12_judgeBody 57 rfl) (by decide) ?_
              refine hz_istore (pc := 105) (i := 4) (lo2 := [(4, .int (nI 0)), (3, .int (bn_int (lf l) 68)), (0, .ref B), (1, .int (nI v)), (2, .int (nI ((if od then 1 else 0))))]) (hz_dec kX12_judgeBody 58 rfl) (by decide) rfl ?_
              refine hz_pick (pc := 107) [0, 2, 3, 4, 1] rfl ?_
              refine c_jb_r hfm6.2.1 hE6 h8 hz hA6 hl4 hW h146 h166 (fun hrw => ?_) (fun hrw => ?_) (bkN l) 0 rfl (by omega) (fun i hi => absurd hi (by omega))
              · have e9 : jBk bl en l (nrB nx l.length od) = 5 := by unfold jBk; rw [if_neg hW, if_neg ck, if_neg (show ¬ wkS (hdS l) = false by rw [hwk]; decide), if_neg (show ¬ ¬ rtS l = subL l 32 32 from fun q => q hro), if_pos hrw]
                exact ⟨by rw [e9], rfl, hg6.mono rfl rfl, hE6, cvK.mf hg6 rfl rfl rfl rfl, by rw [e9]; exact fun _ => hAH6, by rw [e9]; exact fun q9 => absurd q9 (by decide)⟩
              · skip
                refine hz_aloadn (pc := 159) 0 (hz_dec kX12_judgeBody 84 rfl) rfl ?_
                refine hz_aloadn (pc := 160) 0 (hz_dec kX12_judgeBody 85 rfl) rfl ?_
                refine hz_iloadn (pc := 161) 1 (hz_dec kX12_judgeBody 86 rfl) rfl ?_
                refine hz_aloadn (pc := 162) 0 (hz_dec kX12_judgeBody 87 rfl) rfl ?_
                refine hz_get (pc := 163) (v := .ref (B + 35)) (hz_dec kX12_judgeBody 88 rfl) fo_X12_116 hO6 h8 (by omega) (hF6.2 38 (by decide) (by decide)) ?_
                refine hz_iconst (pc := 166) (v := nI 0) (hz_dec kX12_judgeBody 89 rfl) (by decide) ?_
                refine hz_xV (pc := 167) (a := B) (As := [.int (nI v), .ref (B + 35), .int (nI 0)]) (st := [.ref B]) (hz_dec kX12_judgeBody 90 rfl) co_X12_531 im_X12_findBlock se_X12_findBlock rfl hO6 h8 (by omega) (c_mfB hfm6.2.1 hE6 h8 hz hv hnb hN6 hE6.a35 (by omega) (by omega) (by decide) (isA_sub (i := 0) (n := 32) hA6 (by omega)) (subL_len _ _ _) (by decide)) rfl (by decide) ⟨Nat.le_refl _, Nat.le_refl _⟩ (Nat.le_of_ble_eq_true rfl) rfl ?_
                by_cases cp : pvF bl l < bl.length
                · skip
                  refine hz_eqi (pc := 170) (show _ = nI (pvF bl l) from if_pos cp) ?_
                  refine hz_puti (pc := 170) (hz_dec kX12_judgeBody 91 rfl) fo_X12_541 ft_X12_61 hO6 h8 (by omega) (by rw [hF6.1]; decide) ?_
                  have hfm7 : mfr B [61] [] M6 (va_up M6 B (.inr (12, (List.set fs6 61 (.int (nI (pvF bl l))))))) := (mfr.rf ⟨fs6, hO6, hF6⟩).upO (k := 61) hO6 hF6 rfl rfl
                  have hE7 : mdE (va_up M6 B (.inr (12, (List.set fs6 61 (.int (nI (pvF bl l))))))) B := hE6.upO
                  have h617 : fdB (va_up M6 B (.inr (12, (List.set fs6 61 (.int (nI (pvF bl l))))))) B 61 = some (.int (nI (pvF bl l))) := by rw [fdB_of (va_up_self _ _ _), List.getElem?_set_self (by rw [hF6.1]; decide)]
                  have hg7 : mfr B [16, 61] [3, 4, 5, 7, 10, 11, 14, 15, 42, 53] M (va_up M6 B (.inr (12, (List.set fs6 61 (.int (nI (pvF bl l))))))) := (hg6.mono rfl rfl).tr (hfm7.mono rfl rfl)
                  have hAH7 : isA (fA (va_up M6 B (.inr (12, (List.set fs6 61 (.int (nI (pvF bl l))))))) B 53) 0 (haS l) := by rw [fA_m hfm7 (by decide) rfl]; exact hAH6
                  generalize hM7 : (va_up M6 B (.inr (12, (List.set fs6 61 (.int (nI (pvF bl l))))))) = M7 at *
                  have hk7 : md_k B M7 z := hk6.mf hfm7 rfl rfl
                  obtain ⟨fs7, hO7, hF7⟩ := id hfm7.2.1
                  have hA7 : isA (fA M7 B 35) 0 l := by rw [fA_m hfm7 (by decide) rfl]; exact hA6
                  have hN7 := hN6.mf hfm7 rfl
                  have hR7 := hR6.mf hfm7 rfl
                  have g617 : fs7[61]? = some (.int (nI (pvF bl l))) := (fdB_of hO7 61).symm.trans h617
                  refine hz_aloadn (pc := 173) 0 (hz_dec kX12_judgeBody 92 rfl) rfl ?_
                  refine hz_get (pc := 174) (v := .int (nI (pvF bl l))) (hz_dec kX12_judgeBody 93 rfl) fo_X12_541 hO7 h8 (by omega) g617 ?_
                  refine hz_z_ge (pc := 177) (tgt := 183) (hz_dec kX12_judgeBody 94 rfl) (by decide) (by omega) ?_
                  have hrx : rx bl.length (pvF bl l) = pvF bl l := rx_lt cp
                  refine hz_iloadn (pc := 183) 3 (hz_dec kX12_judgeBody 97 rfl) rfl ?_
                  refine hz_aloadn (pc := 184) 0 (hz_dec kX12_judgeBody 98 rfl) rfl ?_
                  refine hz_iloadn (pc := 185) 1 (hz_dec kX12_judgeBody 99 rfl) rfl ?_
                  refine hz_aloadn (pc := 186) 0 (hz_dec kX12_judgeBody 100 rfl) rfl ?_
                  refine hz_get (pc := 187) (v := .int (nI (pvF bl l))) (hz_dec kX12_judgeBody 101 rfl) fo_X12_541 hO7 h8 (by omega) g617 ?_
                  have qd := c_mdue (κ := κ) hfm7.2.1 hE7 h8 hz hv hnb hen hR7 hwf (y := pvF bl l) (by omega)
                  rw [hrx] at qd
                  refine hz_callV (pc := 190) (a := B) (As := [.int (nI v), .int (nI (pvF bl l))]) (st := [.int (bn_int (lf l) 68)]) (hz_dec kX12_judgeBody 102 rfl) co_X12_544 im_X12_dueBehind se_X12_dueBehind rfl hO7 h8 (by omega) (qd) rfl (by decide) ⟨Nat.le_refl _, Nat.le_refl _⟩ (Nat.le_of_ble_eq_true rfl) rfl (fun r9 z9 M8 hp9 => ?_)
                  obtain ⟨rfl, rfl, hf8, ht8⟩ := hp9
                  have hfm8 : mfr B [] [10, 11] M7 M8 := mfr.ofl (ks := []) ⟨fs7, hO7, hF7⟩ hf8 rfl
                  have hE8 : mdE M8 B := hE7.ht hfm8 ht8 rfl
                  have hk8 : md_k B M8 z := hk7.mf hfm8 rfl rfl
                  obtain ⟨fs8, hO8, hF8⟩ := id hfm8.2.1
                  have hA8 : isA (fA M8 B 35) 0 l := by rw [fA_m hfm8 (by decide) rfl]; exact hA7
                  have hN8 := hN7.mf hfm8 rfl
                  have hR8 := hR7.mf hfm8 rfl
                  have hg8 : mfr B [16, 61] [3, 4, 5, 7, 10, 11, 14, 15, 42, 53] M M8 := hg7.tr (hfm8.mono rfl rfl)
                  have hAH8 : isA (fA M8 B 53) 0 (haS l) := by rw [fA_m hfm8 (by decide) rfl]; exact hAH7
                  have h618 := (hfm8.2.2 61 rfl).trans h617
                  have g618 : fs8[61]? = some (.int (nI (pvF bl l))) := (fdB_of hO8 61).symm.trans h618
                  refine hz_icmp_eq (pc := 193) (tgt := 199) (hz_dec kX12_judgeBody 103 rfl) (by decide) (fun h7 => ?_) (fun h7 => ?_)
                  · skip
                    refine hz_aloadn (pc := 199) 0 (hz_dec kX12_judgeBody 106 rfl) rfl ?_
                    refine hz_get (pc := 200) (v := .ref (B + 35)) (hz_dec kX12_judgeBody 107 rfl) fo_X12_116 hO8 h8 (by omega) (hF8.2 38 (by decide) (by decide)) ?_
                    refine hz_bipush (pc := 203) (v := nI 64) (hz_dec kX12_judgeBody 108 rfl) (by decide) ?_
                    refine hz_xS (pc := 205) (As := [.ref (B + 35), .int (nI 64)]) (st := []) (hz_dec kX12_judgeBody 109 rfl) co_X12_376 sc_X12_intAt (c_intAt hE8.a35 (by omega) (by omega) (by decide) (by omega)) rfl (by decide) ⟨Nat.le_refl _, Nat.le_refl _⟩ (Nat.le_of_ble_eq_true rfl) rfl ?_
                    refine hz_eqi (pc := 208) (show _ = bn_int (lf l) 64 by have q := int_of hA8 (i := 64) (by omega); rw [Nat.zero_add] at q; exact q) ?_
                    refine hz_aloadn (pc := 208) 0 (hz_dec kX12_judgeBody 110 rfl) rfl ?_
                    refine hz_iloadn (pc := 209) 1 (hz_dec kX12_judgeBody 111 rfl) rfl ?_
                    refine hz_aloadn (pc := 210) 0 (hz_dec kX12_judgeBody 112 rfl) rfl ?_
                    refine hz_get (pc := 211) (v := .int (nI (pvF bl l))) (hz_dec kX12_judgeBody 113 rfl) fo_X12_541 hO8 h8 (by omega) g618 ?_
                    have qm := c_mmid (κ := κ) hfm8.2.1 hE8 h8 hz hv hnb hen hR8 hwf (y := pvF bl l) (by omega)
                    rw [hrx] at qm
                    refine hz_callV (pc := 214) (a := B) (As := [.int (nI v), .int (nI (pvF bl l))]) (st := [.int (bn_int (lf l) 64)]) (hz_dec kX12_judgeBody 114 rfl) co_X12_547 im_X12_middleBehind se_X12_middleBehind rfl hO8 h8 (by omega) (qm) rfl (by decide) ⟨Nat.le_refl _, Nat.le_refl _⟩ (Nat.le_of_ble_eq_true rfl) rfl (fun r9 z9 M9 hp9 => ?_)
                    obtain ⟨rfl, rfl, fm9, hM9⟩ := hp9
                    have hfm9 : mfr B [] [42] M8 M9 := hM9 ▸ (mfr.rf (ks := []) (os := [42]) ⟨fs8, hO8, hF8⟩).upA (o := 42) rfl (by decide)
                    have hE9 : mdE M9 B := hM9 ▸ hE8.upA (by decide)
                    have hk9 : md_k B M9 z := hk8.mf hfm9 rfl rfl
                    obtain ⟨fs9, hO9, hF9⟩ := id hfm9.2.1
                    have hA9 : isA (fA M9 B 35) 0 l := by rw [fA_m hfm9 (by decide) rfl]; exact hA8
                    have hN9 := hN8.mf hfm9 rfl
                    have hR9 := hR8.mf hfm9 rfl
                    have hg9 : mfr B [16, 61] [3, 4, 5, 7, 10, 11, 14, 15, 42, 53] M M9 := hg8.tr (hfm9.mono rfl rfl)
                    have hAH9 : isA (fA M9 B 53) 0 (haS l) := by rw [fA_m hfm9 (by decide) rfl]; exact hAH8
                    have h619 := (hfm9.2.2 61 rfl).trans h618
                    have g619 : fs9[61]? = some (.int (nI (pvF bl l))) := (fdB_of hO9 61).symm.trans h619
                    refine hz_icmp_gt (pc := 217) (tgt := 223) (hz_dec kX12_judgeBody 115 rfl) (by decide) (fun h9 => ?_) (fun h9 => ?_)
                    · skip
                      have hpe := hwf.ht (k := pvF bl l) (by omega)
                      have hR9y := (hR9 (pvF bl l) (by omega)).1 cp
                      have h149 : ∀ j, j ≤ bkN l → fA M9 B 14 j = nI (bkS l j) := by rw [fA_m hfm9 (by decide) rfl, fA_m hfm8 (by decide) rfl, fA_m hfm7 (by decide) rfl]; exact h146
                      have h169 := (hfm9.2.2 16 rfl).trans ((hfm8.2.2 16 rfl).trans ((hfm7.2.2 16 rfl).trans h166))
                      have t0 := hW.t (j := 0) (by omega)
                      have t0l := txW_len t0.2.1
                      have t01 : bkS l 1 = bkS l 0 + (bkT l 0).length := t0.1
                      have t04 : bkS l 1 ≤ l.length := t0.2.2.2.1
                      refine hz_aloadn (pc := 223) 0 (hz_dec kX12_judgeBody 118 rfl) rfl ?_
                      refine hz_get (pc := 224) (v := .ref (B + 27)) (hz_dec kX12_judgeBody 119 rfl) fo_X12_92 hO9 h8 (by omega) (hF9.2 29 (by decide) (by decide)) ?_
                      refine hz_iloadn (pc := 227) 1 (hz_dec kX12_judgeBody 120 rfl) rfl ?_
                      refine hz_aloadn (pc := 228) 0 (hz_dec kX12_judgeBody 121 rfl) rfl ?_
                      refine hz_get (pc := 229) (v := .int (nI (pvF bl l))) (hz_dec kX12_judgeBody 122 rfl) fo_X12_541 hO9 h8 (by omega) g619 ?_
                      refine hz_xS (pc := 232) (As := [.int (nI v), .int (nI (pvF bl l))]) (st := [.ref (B + 27)]) (hz_dec kX12_judgeBody 123 rfl) co_X12_419 sc_X12_at0 (c_at0) rfl (by decide) ⟨Nat.le_refl _, Nat.le_refl _⟩ (Nat.le_of_ble_eq_true rfl) rfl ?_
                      refine hz_iald (pc := 235) (j := 128 * v + pvF bl l) (hz_dec kX12_judgeBody 124 rfl) hE9.a27 (by omega) (by omega) rfl (by omega) (by decide) ?_
                      refine hz_eqi (pc := 236) hR9y.2.1 ?_
                      refine hz_iconst (pc := 236) (v := nI 1) (hz_dec kX12_judgeBody 125 rfl) (by decide) ?_
                      refine hz_addN (pc := 237) (hz_dec kX12_judgeBody 126 rfl) ?_
                      refine hz_istore (pc := 238) (i := 4) (lo2 := [(4, .int (nI ((eH en (pvF bl l)) + 1))), (0, .ref B), (1, .int (nI v)), (2, .int (nI ((if od then 1 else 0)))), (3, .int (bn_int (lf l) 68))]) (hz_dec kX12_judgeBody 127 rfl) (by decide) rfl ?_
                      refine hz_aloadn (pc := 240) 1 (hz_dec kX12_judgeBody 128 rfl) rfl ?_
                      refine hz_get (pc := 241) (v := .ref (B + 35)) (hz_dec kX12_judgeBody 129 rfl) fo_X12_116 hO9 h8 (by omega) (hF9.2 38 (by decide) (by decide)) ?_
                      refine hz_aloadn (pc := 244) 1 (hz_dec kX12_judgeBody 130 rfl) rfl ?_
                      refine hz_get (pc := 245) (v := .ref (B + 14)) (hz_dec kX12_judgeBody 131 rfl) fo_X12_51 hO9 h8 (by omega) (hF9.2 15 (by decide) (by decide)) ?_
                      refine hz_iconst (pc := 248) (v := nI 0) (hz_dec kX12_judgeBody 132 rfl) (by decide) ?_
                      refine hz_iald (pc := 249) (j := 0) (hz_dec kX12_judgeBody 133 rfl) hE9.a14 (by omega) (by omega) rfl (by omega) (by decide) ?_
                      refine hz_eqi (pc := 250) (h149 (0) (by omega)) ?_
                      refine hz_iconst (pc := 250) (v := nI 2) (hz_dec kX12_judgeBody 134 rfl) (by decide) ?_
                      refine hz_addN (pc := 251) (hz_dec kX12_judgeBody 135 rfl) ?_
                      refine hz_xS (pc := 252) (As := [.ref (B + 35), .int (nI ((bkS l (0)) + 2))]) (st := []) (hz_dec kX12_judgeBody 136 rfl) co_X12_376 sc_X12_intAt (c_intAt hE9.a35 (by omega) (by omega) (by decide) (by omega)) rfl (by decide) ⟨Nat.le_refl _, Nat.le_refl _⟩ (Nat.le_of_ble_eq_true rfl) rfl ?_
                      refine hz_eqi (pc := 255) (show _ = bn_int (lf l) (bkS l 0 + 2) by have q := int_of hA9 (i := bkS l 0 + 2) (by omega); rw [Nat.zero_add] at q; exact q) ?_
                      refine hz_iload (pc := 255) 0 (hz_dec kX12_judgeBody 137 rfl) rfl ?_
                      refine hz_icmp_eq (pc := 257) (tgt := 263) (hz_dec kX12_judgeBody 138 rfl) (by decide) (fun h10 => ?_) (fun h10 => ?_)
                      · skip
                        obtain ⟨hcl1, hcl2⟩ := hcl (pvF bl l) cp
                        obtain ⟨cn, cbx, k54, k55, kcc⟩ := hcv
                        have h549 := (hg9.2.2 54 rfl).trans k54
                        have h559 := (hg9.2.2 55 rfl).trans k55
                        have hcc9 : cn = nI v → cbx = nI (pvF bl l) → mcR M9 B (coAt bl en (pvF bl l)) := fun q1 q2 => by
                          obtain ⟨x, hx1, hx2, hx3⟩ := kcc q1
                          have ex : x = pvF bl l := (nI_eq (by omega) (by omega)).mp (hx2.symm.trans q2)
                          rw [← ex]
                          exact hx3.fr hg9 rfl rfl
                        have h249 : ∀ k, k < bl.length → (bBy bl k).length ≤ 200 ∨ fA M9 B 24 (128 * v + k) ≠ -1 := by rw [fA_m hg9 (by decide) rfl]; exact h240
                        refine hz_aloadn (pc := 263) 1 (hz_dec kX12_judgeBody 141 rfl) rfl ?_
                        refine hz_iloadn (pc := 264) 2 (hz_dec kX12_judgeBody 142 rfl) rfl ?_
                        refine hz_iload (pc := 265) 0 (hz_dec kX12_judgeBody 143 rfl) rfl ?_
                        refine hz_callV (pc := 267) (a := B) (As := [.int (nI v), .int (nI ((eH en (pvF bl l)) + 1))]) (st := []) (hz_dec kX12_judgeBody 144 rfl) co_X12_550 im_X12_judgeParts se_X12_judgeParts rfl hO9 h8 (by omega) (c_jParts hk9 hE9 hA9 hl4 hW h149 h169 (h_ := eH en (pvF bl l) + 1) (by omega) hv hnb hlen hR9 hN9 hwf hbx h249 cp (hcb (pvF bl l) cp) h549 h559 hcc9 h619 hcl2 (by omega)) rfl (by decide) ⟨Nat.le_refl _, Nat.le_refl _⟩ (Nat.le_of_ble_eq_true rfl) rfl (fun r9 z9 M10 hp9 => ?_)
                        obtain ⟨rfl, rfl, hf10, hE10, hcc10⟩ := hp9
                        have hg10 : mfr B [16, 53, 54, 55, 59, 61] [3, 4, 5, 6, 7, 8, 9, 10, 11, 14, 15, 42, 43, 44, 45, 46, 47, 48, 49, 50, 52, 53] M M10 := (hg9.mono rfl rfl).tr (hf10.mono rfl rfl)
                        have hAH10 : isA (fA M10 B 53) 0 (haS l) := by rw [fA_m hf10 (by decide) rfl]; exact hAH9
                        have h6110 := (hf10.2.2 61 rfl).trans h619
                        obtain ⟨fs10, hO10, hF10⟩ := id hf10.2.1
                        have h1810 : fA M10 B 18 v = nI nx := by rw [fA_m hg10 (by decide) rfl]; exact h18
                        have g3910 : fs10[39]? = some (.int (nI l.length)) := (fdB_of hO10 39).symm.trans ((hg10.2.2 39 rfl).trans h39)
                        have hv9 : jPa l (eH en (pvF bl l) + 1) (coAt bl en (pvF bl l)) < 100 := jPa_lt _ _ _
                        refine hz_istore (pc := 270) (i := 5) (lo2 := [(5, .int (nI (jPa l (eH en (pvF bl l) + 1) (coAt bl en (pvF bl l))))), (4, .int (nI ((eH en (pvF bl l)) + 1))), (0, .ref B), (1, .int (nI v)), (2, .int (nI ((if od then 1 else 0)))), (3, .int (bn_int (lf l) 68))]) (hz_dec kX12_judgeBody 145 rfl) (by decide) rfl ?_
                        refine hz_iload (pc := 272) 0 (hz_dec kX12_judgeBody 146 rfl) rfl ?_
                        refine hz_z_ne (pc := 274) (tgt := 306) (hz_dec kX12_judgeBody 147 rfl) (by decide) (by omega) (fun h11 => ?_) (fun h11 => ?_)
                        · skip
                          have e9 : jBk bl en l (nrB nx l.length od) = jPa l (eH en (pvF bl l) + 1) (coAt bl en (pvF bl l)) := by unfold jBk; rw [if_neg hW, if_neg ck, if_neg (show ¬ wkS (hdS l) = false by rw [hwk]; decide), if_neg (show ¬ ¬ rtS l = subL l 32 32 from fun q => q hro), if_neg (show ¬ rwS l = false by rw [hrw]; decide), if_neg (show ¬ ¬ pvF bl l < bl.length from fun q => q cp), if_neg (show ¬ ¬ bn_int (lf l) 68 = dueE en (pvF bl l) from fun q => q h7), if_neg (show ¬ bn_int (lf l) 64 ≤ midE en (pvF bl l) from Int32.not_le.mpr h9), if_neg (show ¬ ¬ bn_int (lf l) (bkS l 0 + 2) = nI (eH en (pvF bl l) + 1) from fun q => q h10), if_neg (show ¬ (jPa l (eH en (pvF bl l) + 1) (coAt bl en (pvF bl l)) = 0 ∧ nrB nx l.length od = true) from fun q => by omega)]
                          refine hz_iload (pc := 306) 0 (hz_dec kX12_judgeBody 163 rfl) rfl ?_
                          exact hz_iret (pc := 308) (hz_dec kX12_judgeBody 164 rfl) rfl ⟨by rw [e9], rfl, hg10, hE10, (ccP.k (Or.inr hcc10) hv cp), fun _ => hAH10, fun _ => h6110⟩
                        · skip
                          refine hz_iloadn (pc := 277) 4 (hz_dec kX12_judgeBody 148 rfl) rfl ?_
                          refine hz_z_eq (pc := 278) (tgt := 306) (hz_dec kX12_judgeBody 149 rfl) (by decide) (by omega) (fun h12 => ?_) (fun h12 => ?_)
                          · skip
                            have e9 : jBk bl en l (nrB nx l.length od) = jPa l (eH en (pvF bl l) + 1) (coAt bl en (pvF bl l)) := by unfold jBk; rw [if_neg hW, if_neg ck, if_neg (show ¬ wkS (hdS l) = false by rw [hwk]; decide), if_neg (show ¬ ¬ rtS l = subL l 32 32 from fun q => q hro), if_neg (show ¬ rwS l = false by rw [hrw]; decide), if_neg (show ¬ ¬ pvF bl l < bl.length from fun q => q cp), if_neg (show ¬ ¬ bn_int (lf l) 68 = dueE en (pvF bl l) from fun q => q h7), if_neg (show ¬ bn_int (lf l) 64 ≤ midE en (pvF bl l) from Int32.not_le.mpr h9), if_neg (show ¬ ¬ bn_int (lf l) (bkS l 0 + 2) = nI (eH en (pvF bl l) + 1) from fun q => q h10), if_neg (show ¬ (jPa l (eH en (pvF bl l) + 1) (coAt bl en (pvF bl l)) = 0 ∧ nrB nx l.length od = true) from fun q => by have r := q.2; unfold nrB at r; cases od; cases r; exact absurd h12 (by decide))]
                            refine hz_iload (pc := 306) 0 (hz_dec kX12_judgeBody 163 rfl) rfl ?_
                            exact hz_iret (pc := 308) (hz_dec kX12_judgeBody 164 rfl) rfl ⟨by rw [e9], rfl, hg10, hE10, (ccP.k (Or.inr hcc10) hv cp), fun _ => hAH10, fun _ => h6110⟩
                          · skip
                            have hod1 : od = true := by cases od; exact absurd h12 (by decide); rfl
                            refine hz_aloadn (pc := 281) 2 (hz_dec kX12_judgeBody 150 rfl) rfl ?_
                            refine hz_get (pc := 282) (v := .ref (B + 18)) (hz_dec kX12_judgeBody 151 rfl) fo_X12_65 hO10 h8 (by omega) (hF10.2 20 (by decide) (by decide)) ?_
                            refine hz_iloadn (pc := 285) 3 (hz_dec kX12_judgeBody 152 rfl) rfl ?_
                            refine hz_iald (pc := 286) (j := v) (hz_dec kX12_judgeBody 153 rfl) hE10.a18 (by omega) (by omega) rfl (by omega) (by decide) ?_
                            refine hz_eqi (pc := 287) h1810 ?_
                            refine hz_aloadn (pc := 287) 2 (hz_dec kX12_judgeBody 154 rfl) rfl ?_
                            refine hz_get (pc := 288) (v := .int (nI (l.length))) (hz_dec kX12_judgeBody 155 rfl) fo_X12_422 hO10 h8 (by omega) g3910 ?_
                            refine hz_addN (pc := 291) (hz_dec kX12_judgeBody 156 rfl) ?_
                            refine hz_bipush (pc := 292) (v := nI 8) (hz_dec kX12_judgeBody 157 rfl) (by decide) ?_
                            refine hz_addN (pc := 294) (hz_dec kX12_judgeBody 158 rfl) ?_
                            refine hz_sipush (pc := 295) (v := nI 12288) (hz_dec kX12_judgeBody 159 rfl) (by decide) ?_
                            refine hz_n_le (pc := 298) (tgt := 306) (hz_dec kX12_judgeBody 160 rfl) (by decide) (by omega) (by omega) (fun h13 => ?_) (fun h13 => ?_)
                            · skip
                              have e9 : jBk bl en l (nrB nx l.length od) = jPa l (eH en (pvF bl l) + 1) (coAt bl en (pvF bl l)) := by unfold jBk; rw [if_neg hW, if_neg ck, if_neg (show ¬ wkS (hdS l) = false by rw [hwk]; decide), if_neg (show ¬ ¬ rtS l = subL l 32 32 from fun q => q hro), if_neg (show ¬ rwS l = false by rw [hrw]; decide), if_neg (show ¬ ¬ pvF bl l < bl.length from fun q => q cp), if_neg (show ¬ ¬ bn_int (lf l) 68 = dueE en (pvF bl l) from fun q => q h7), if_neg (show ¬ bn_int (lf l) 64 ≤ midE en (pvF bl l) from Int32.not_le.mpr h9), if_neg (show ¬ ¬ bn_int (lf l) (bkS l 0 + 2) = nI (eH en (pvF bl l) + 1) from fun q => q h10), if_neg (show ¬ (jPa l (eH en (pvF bl l) + 1) (coAt bl en (pvF bl l)) = 0 ∧ nrB nx l.length od = true) from fun q => by have r := q.2; unfold nrB at r; rw [hod1, Bool.true_and] at r; have r1 := of_decide_eq_true r; omega)]
                              refine hz_iload (pc := 306) 0 (hz_dec kX12_judgeBody 163 rfl) rfl ?_
                              exact hz_iret (pc := 308) (hz_dec kX12_judgeBody 164 rfl) rfl ⟨by rw [e9], rfl, hg10, hE10, (ccP.k (Or.inr hcc10) hv cp), fun _ => hAH10, fun _ => h6110⟩
                            · skip
                              have e9 : jBk bl en l (nrB nx l.length od) = 15 := by unfold jBk; rw [if_neg hW, if_neg ck, if_neg (show ¬ wkS (hdS l) = false by rw [hwk]; decide), if_neg (show ¬ ¬ rtS l = subL l 32 32 from fun q => q hro), if_neg (show ¬ rwS l = false by rw [hrw]; decide), if_neg (show ¬ ¬ pvF bl l < bl.length from fun q => q cp), if_neg (show ¬ ¬ bn_int (lf l) 68 = dueE en (pvF bl l) from fun q => q h7), if_neg (show ¬ bn_int (lf l) 64 ≤ midE en (pvF bl l) from Int32.not_le.mpr h9), if_neg (show ¬ ¬ bn_int (lf l) (bkS l 0 + 2) = nI (eH en (pvF bl l) + 1) from fun q => q h10), if_pos (show jPa l (eH en (pvF bl l) + 1) (coAt bl en (pvF bl l)) = 0 ∧ nrB nx l.length od = true from ⟨by omega, by unfold nrB; rw [hod1, Bool.true_and]; exact decide_eq_true (by omega)⟩)]
                              refine hz_bipush (pc := 301) (v := nI 15) (hz_dec kX12_judgeBody 161 rfl) (by decide) ?_
                              refine hz_goto (pc := 303) (tgt := 308) (hz_dec kX12_judgeBody 162 rfl) (by decide) ?_
                              exact hz_iret (pc := 308) (hz_dec kX12_judgeBody 164 rfl) rfl ⟨by rw [e9], rfl, hg10, hE10, (ccP.k (Or.inr hcc10) hv cp), fun _ => hAH10, fun _ => h6110⟩
                      · skip
                        have e9 : jBk bl en l (nrB nx l.length od) = 9 := by unfold jBk; rw [if_neg hW, if_neg ck, if_neg (show ¬ wkS (hdS l) = false by rw [hwk]; decide), if_neg (show ¬ ¬ rtS l = subL l 32 32 from fun q => q hro), if_neg (show ¬ rwS l = false by rw [hrw]; decide), if_neg (show ¬ ¬ pvF bl l < bl.length from fun q => q cp), if_neg (show ¬ ¬ bn_int (lf l) 68 = dueE en (pvF bl l) from fun q => q h7), if_neg (show ¬ bn_int (lf l) 64 ≤ midE en (pvF bl l) from Int32.not_le.mpr h9), if_pos (show ¬ bn_int (lf l) (bkS l 0 + 2) = nI (eH en (pvF bl l) + 1) from h10)]
                        refine hz_bipush (pc := 260) (v := nI 9) (hz_dec kX12_judgeBody 139 rfl) (by decide) ?_
                        exact hz_iret (pc := 262) (hz_dec kX12_judgeBody 140 rfl) rfl ⟨by rw [e9], rfl, hg9.mono rfl rfl, hE9, cvK.mf hg9 rfl rfl rfl rfl, by rw [e9]; exact fun _ => hAH9, by rw [e9]; exact fun q9 => absurd q9 (by decide)⟩
                    · skip
                      have e9 : jBk bl en l (nrB nx l.length od) = 8 := by unfold jBk; rw [if_neg hW, if_neg ck, if_neg (show ¬ wkS (hdS l) = false by rw [hwk]; decide), if_neg (show ¬ ¬ rtS l = subL l 32 32 from fun q => q hro), if_neg (show ¬ rwS l = false by rw [hrw]; decide), if_neg (show ¬ ¬ pvF bl l < bl.length from fun q => q cp), if_neg (show ¬ ¬ bn_int (lf l) 68 = dueE en (pvF bl l) from fun q => q h7), if_pos (show bn_int (lf l) 64 ≤ midE en (pvF bl l) from Int32.not_lt.mp h9)]
                      refine hz_bipush (pc := 220) (v := nI 8) (hz_dec kX12_judgeBody 116 rfl) (by decide) ?_
                      exact hz_iret (pc := 222) (hz_dec kX12_judgeBody 117 rfl) rfl ⟨by rw [e9], rfl, hg9.mono rfl rfl, hE9, cvK.mf hg9 rfl rfl rfl rfl, by rw [e9]; exact fun _ => hAH9, by rw [e9]; exact fun q9 => absurd q9 (by decide)⟩
                  · skip
                    have e9 : jBk bl en l (nrB nx l.length od) = 7 := by unfold jBk; rw [if_neg hW, if_neg ck, if_neg (show ¬ wkS (hdS l) = false by rw [hwk]; decide), if_neg (show ¬ ¬ rtS l = subL l 32 32 from fun q => q hro), if_neg (show ¬ rwS l = false by rw [hrw]; decide), if_neg (show ¬ ¬ pvF bl l < bl.length from fun q => q cp), if_pos (show ¬ bn_int (lf l) 68 = dueE en (pvF bl l) from h7)]
                    refine hz_bipush (pc := 196) (v := nI 7) (hz_dec kX12_judgeBody 104 rfl) (by decide) ?_
                    exact hz_iret (pc := 198) (hz_dec kX12_judgeBody 105 rfl) rfl ⟨by rw [e9], rfl, hg8.mono rfl rfl, hE8, cvK.mf hg8 rfl rfl rfl rfl, by rw [e9]; exact fun _ => hAH8, by rw [e9]; exact fun q9 => absurd q9 (by decide)⟩
                · skip
                  refine hz_eqi (pc := 170) (show _ = (-1 : Int32) from if_neg cp) ?_
                  refine hz_puti (pc := 170) (hz_dec kX12_judgeBody 91 rfl) fo_X12_541 ft_X12_61 hO6 h8 (by omega) (by rw [hF6.1]; decide) ?_
                  have hfm7 : mfr B [61] [] M6 (va_up M6 B (.inr (12, (List.set fs6 61 (.int (-1)))))) := (mfr.rf ⟨fs6, hO6, hF6⟩).upO (k := 61) hO6 hF6 rfl rfl
                  have hE7 : mdE (va_up M6 B (.inr (12, (List.set fs6 61 (.int (-1)))))) B := hE6.upO
                  have h617 : fdB (va_up M6 B (.inr (12, (List.set fs6 61 (.int (-1)))))) B 61 = some (.int (-1)) := by rw [fdB_of (va_up_self _ _ _), List.getElem?_set_self (by rw [hF6.1]; decide)]
                  have hg7 : mfr B [16, 61] [3, 4, 5, 7, 10, 11, 14, 15, 42, 53] M (va_up M6 B (.inr (12, (List.set fs6 61 (.int (-1)))))) := (hg6.mono rfl rfl).tr (hfm7.mono rfl rfl)
                  have hAH7 : isA (fA (va_up M6 B (.inr (12, (List.set fs6 61 (.int (-1)))))) B 53) 0 (haS l) := by rw [fA_m hfm7 (by decide) rfl]; exact hAH6
                  generalize hM7 : (va_up M6 B (.inr (12, (List.set fs6 61 (.int (-1)))))) = M7 at *
                  have hk7 : md_k B M7 z := hk6.mf hfm7 rfl rfl
                  obtain ⟨fs7, hO7, hF7⟩ := id hfm7.2.1
                  have hA7 : isA (fA M7 B 35) 0 l := by rw [fA_m hfm7 (by decide) rfl]; exact hA6
                  have hN7 := hN6.mf hfm7 rfl
                  have hR7 := hR6.mf hfm7 rfl
                  have g617 : fs7[61]? = some (.int (-1)) := (fdB_of hO7 61).symm.trans h617
                  refine hz_aloadn (pc := 173) 0 (hz_dec kX12_judgeBody 92 rfl) rfl ?_
                  refine hz_get (pc := 174) (v := .int (-1)) (hz_dec kX12_judgeBody 93 rfl) fo_X12_541 hO7 h8 (by omega) g617 ?_
                  refine hz_if_ge (pc := 177) (tgt := 183) (hz_dec kX12_judgeBody 94 rfl) (by decide) (fun h6 => ?_) (fun h6 => ?_)
                  · skip
                    exact absurd h6 (by decide)
                  · skip
                    have e9 : jBk bl en l (nrB nx l.length od) = 6 := by unfold jBk; rw [if_neg hW, if_neg ck, if_neg (show ¬ wkS (hdS l) = false by rw [hwk]; decide), if_neg (show ¬ ¬ rtS l = subL l 32 32 from fun q => q hro), if_neg (show ¬ rwS l = false by rw [hrw]; decide), if_pos cp]
                    refine hz_bipush (pc := 180) (v := nI 6) (hz_dec kX12_judgeBody 95 rfl) (by decide) ?_
                    exact hz_iret (pc := 182) (hz_dec kX12_judgeBody 96 rfl) rfl ⟨by rw [e9], rfl, hg7.mono rfl rfl, hE7, cvK.mf hg7 rfl rfl rfl rfl, by rw [e9]; exact fun _ => hAH7, by rw [e9]; exact fun q9 => absurd q9 (by decide)⟩
            · skip
              have e9 : jBk bl en l (nrB nx l.length od) = 4 := by unfold jBk; rw [if_neg hW, if_neg ck, if_neg (show ¬ wkS (hdS l) = false by rw [hwk]; decide), if_pos (show ¬ rtS l = subL l 32 32 from of_decide_eq_false (hz_b0 h5))]
              refine hz_iconst (pc := 102) (v := nI 4) (hz_dec kX12_judgeBody 55 rfl) (by decide) ?_
              exact hz_iret (pc := 103) (hz_dec kX12_judgeBody 56 rfl) rfl ⟨by rw [e9], rfl, hg6.mono rfl rfl, hE6, cvK.mf hg6 rfl rfl rfl rfl, by rw [e9]; exact fun _ => hAH6, by rw [e9]; exact fun q9 => absurd q9 (by decide)⟩
          · skip
            have e9 : jBk bl en l (nrB nx l.length od) = 3 := by unfold jBk; rw [if_neg hW, if_neg ck, if_pos (show wkS (hdS l) = false by unfold wkS; rw [hdS_68, hz_b0 h4, Bool.and_false])]
            refine hz_iconst (pc := 79) (v := nI 3) (hz_dec kX12_judgeBody 43 rfl) (by decide) ?_
            exact hz_iret (pc := 80) (hz_dec kX12_judgeBody 44 rfl) rfl ⟨by rw [e9], rfl, hg5.mono rfl rfl, hE5, cvK.mf hg5 rfl rfl rfl rfl, by rw [e9]; exact fun _ => hAH5, by rw [e9]; exact fun q9 => absurd q9 (by decide)⟩
      · skip
        exact absurd (by decide) h2
  · skip
    have e9 : jBk bl en l (nrB nx l.length od) = 1 := by unfold jBk; rw [if_pos (by have q := of_decide_eq_false (hz_b0 h1); exact Decidable.not_not.mp q)]
    refine hz_iconst (pc := 16) (v := nI 1) (hz_dec kX12_judgeBody 8 rfl) (by decide) ?_
    exact hz_iret (pc := 17) (hz_dec kX12_judgeBody 9 rfl) rfl ⟨by rw [e9], rfl, hfm1.mono rfl rfl, hE1, cvK.mf hfm1 rfl rfl rfl rfl, by rw [e9]; exact fun q9 => absurd rfl q9, by rw [e9]; exact fun q9 => absurd q9 (by decide)⟩
