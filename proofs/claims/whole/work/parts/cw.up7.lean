/-! up: keepFirst -/
def fiB (F : by_L) : bk_B := (F, none, 0, 0 + wkN (bn_int (lf F) 68))
/-- the FIRST block, in the reference -/
def fiM (M : hz_M) (B : Nat) (F : by_L) : Prop := fdB M B 37 = some (.int (nI F.length)) ∧ isA (fA M B 34) 0 F
/-- the FIRST block, in every node -/
def hoF (F : by_L) (H : ho_H) : Prop := ∀ v, v < (hoN H).length → bkL (ksB (ndL (hoN H) v).1) 0 = fiB F
theorem fiM.fr {M M2 : hz_M} {B : Nat} {F : by_L} (h : fiM M B F) (f : frM B M M2) : fiM M2 B F := ⟨f.2.2.trans h.1, by rw [fA_c f.2.1]; exact h.2⟩
theorem fiM.mf {M M2 : hz_M} {B : Nat} {F : by_L} {ks os : List Nat} (h : fiM M B F) (f : mfr B ks os M M2) (h34 : os.elem 34 = false) (h37 : ks.elem 37 = false) : fiM M2 B F := ⟨(f.2.2 37 h37).trans h.1, by rw [fA_m f (by decide) h34]; exact h.2⟩
theorem fi_to {t : Int32} (h : tgR t = true) : 0 + wkN t < 4294967296 ^ 9 := by
  rw [Nat.zero_add]
  exact Nat.lt_of_le_of_lt (wkN_le h) (by decide)
theorem agK {M M2 : hz_M} {B v : Nat} (f : mfr B [39] [18, 20] M M2) (h18 : ∀ x, ¬ x = v → fA M2 B 18 x = fA M B 18 x) (h20 : ∀ x, ¬ x = v → fA M2 B 20 x = fA M B 20 x) : agV M M2 B v := by
  intro u hu
  refine agN.of f (fun p hp e => ?_) (fun p hp e => ?_)
  · have hs : agS.all (fun p => decide (p.1 = 18 ∨ p.1 = 20 → p.2 = 1)) = true := by decide
    have r : p.1 = 18 ∨ p.1 = 20 := by simpa using e
    have s := of_decide_eq_true (List.all_eq_true.mp hs p hp) r
    intro j hj
    rcases r with r | r
    · rw [r]; rw [s] at hj ⊢; exact h18 _ (by omega)
    · rw [r]; rw [s] at hj ⊢; exact h20 _ (by omega)
  · have r := List.all_eq_true.mp (show agL.all (fun p => !([18, 20] : List Nat).elem p.1) = true from rfl) p hp
    rw [e] at r
    cases r
set_option maxHeartbeats 4000000 in
set_option maxRecDepth 100000 in
theorem c_kF_2 {κ : hz_C} {z B : Nat} {M0 : hz_M} (hk0 : md_k B M0 z) (hE0 : mdE M0 B) {v : Nat} (hv6 : v < 6) {F : by_L} (hF : fiM M0 B F) (hW : blW F) (hF2 : F.length ≤ 200) (hRt : tgR (bn_int (lf F) 68) = true) {M : hz_M} (hfr : mfr B [] [35] M0 M) (hE : mdE M B) (hA : isA (fA M B 35) 0 F) : hz_W κ xX12_keepFirst 6 0 0 (fun r z2 M2 => none = r ∧ z = z2 ∧ mfr B [16, 39] [3, 4, 5, 7, 10, 11, 12, 13, 14, 18, 20, 21, 24, 25, 26, 27, 28, 29, 30, 31, 32, 33, 35, 36] M0 M2 ∧ mdE M2 B ∧ agV M0 M2 B v ∧ mnB M2 B v [fiB F] (enB [fiB F]) 0 ∧ fA M2 B 18 v = nI 0 ∧ fA M2 B 24 (128 * v + 0) = -1) 0 0 28 [(0, .ref B), (1, .int (nI v))] [] z M := by
  obtain ⟨-, -, -, h8, hz⟩ := id hk0
  obtain ⟨hbf1, hbf2, hbf3, hbf4, hbf5, hbf6, hbf7⟩ := hW.f
  have hln9 := hW.len
  obtain ⟨fs, hO, hFF⟩ := id hfr.2.1
  have g37 : fs[37]? = some (.int (nI F.length)) := (fdB_of hO 37).symm.trans ((hfr.2.2 37 rfl).trans hF.1)
  refine hz_aloadn (pc := 28) 0 (hz_dec kX12_keepFirst 16 rfl) rfl ?_
  refine hz_aloadn (pc := 29) 0 (hz_dec kX12_keepFirst 17 rfl) rfl ?_
  refine hz_get (pc := 30) (v := .int (nI (F.length))) (hz_dec kX12_keepFirst 18 rfl) fo_X12_434 hO h8 (by omega) g37 ?_
  refine hz_puti (pc := 33) (hz_dec kX12_keepFirst 19 rfl) fo_X12_422 ft_X12_39 hO h8 (by omega) (by rw [hFF.1]; decide) ?_
  refine hz_aloadn (pc := 36) 0 (hz_dec kX12_keepFirst 20 rfl) rfl ?_
  refine hz_get (pc := 37) (v := .ref (B + 20)) (hz_dec kX12_keepFirst 21 rfl) fo_X12_71 (va_up_self _ _ _) h8 (by omega) ((md_set hFF rfl).2 22 (by decide) (by decide)) ?_
  refine hz_iloadn (pc := 40) 1 (hz_dec kX12_keepFirst 22 rfl) rfl ?_
  refine hz_iconst (pc := 41) (v := nI 0) (hz_dec kX12_keepFirst 23 rfl) (by decide) ?_
  refine hz_iast (pc := 42) (j := v) (hz_dec kX12_keepFirst 24 rfl) (hz_mne hE.a20 (by omega)) (by omega) (by omega) rfl (by omega) (by decide) ?_
  refine hz_aloadn (pc := 43) 0 (hz_dec kX12_keepFirst 25 rfl) rfl ?_
  refine hz_get (pc := 44) (v := .ref (B + 18)) (hz_dec kX12_keepFirst 26 rfl) fo_X12_65 (hz_mne (va_up_self _ _ _) (by omega)) h8 (by omega) ((md_set hFF rfl).2 20 (by decide) (by decide)) ?_
  refine hz_iloadn (pc := 47) 1 (hz_dec kX12_keepFirst 27 rfl) rfl ?_
  refine hz_iconst (pc := 48) (v := nI 0) (hz_dec kX12_keepFirst 28 rfl) (by decide) ?_
  refine hz_iast (pc := 49) (j := v) (hz_dec kX12_keepFirst 29 rfl) (hz_mne (hz_mne hE.a18 (by omega)) (by omega)) (by omega) (by omega) rfl (by omega) (by decide) ?_
  have hf1 : mfr B [39] [18, 20] M (va_up (va_up (va_up M B (.inr (12, (List.set fs 39 (.int (nI (F.length))))))) (B + 20) (.inl (0, 6, .inl (upd (fA M B 20) v ((nI (0))))))) (B + 18) (.inl (0, 6, .inl (upd (fA M B 18) v ((nI (0))))))) := ((((mfr.rf (ks := [39]) (os := [18, 20]) hfr.2.1).upO (k := 39) hO hFF rfl rfl).upA (o := 20) rfl (by decide)).upA (o := 18) rfl (by decide))
  have hE1 : mdE (va_up (va_up (va_up M B (.inr (12, (List.set fs 39 (.int (nI (F.length))))))) (B + 20) (.inl (0, 6, .inl (upd (fA M B 20) v ((nI (0))))))) (B + 18) (.inl (0, 6, .inl (upd (fA M B 18) v ((nI (0))))))) B := (((hE.upO).upA (k := 20) (t := 0) (n := 6) (by decide)).upA (k := 18) (t := 0) (n := 6) (by decide))
  have h391 : fdB (va_up (va_up (va_up M B (.inr (12, (List.set fs 39 (.int (nI (F.length))))))) (B + 20) (.inl (0, 6, .inl (upd (fA M B 20) v ((nI (0))))))) (B + 18) (.inl (0, 6, .inl (upd (fA M B 18) v ((nI (0))))))) B 39 = some (.int (nI F.length)) := (fdB_of (hz_mne (hz_mne (va_up_self _ _ _) (by omega)) (by omega)) 39).trans (List.getElem?_set_self (by rw [hFF.1]; decide))
  have q181 : fA (va_up (va_up (va_up M B (.inr (12, (List.set fs 39 (.int (nI (F.length))))))) (B + 20) (.inl (0, 6, .inl (upd (fA M B 20) v ((nI (0))))))) (B + 18) (.inl (0, 6, .inl (upd (fA M B 18) v ((nI (0))))))) B 18 v = nI 0 := by rw [fA_of (va_up_self _ _ _), upd_s]
  have q201 : fA (va_up (va_up (va_up M B (.inr (12, (List.set fs 39 (.int (nI (F.length))))))) (B + 20) (.inl (0, 6, .inl (upd (fA M B 20) v ((nI (0))))))) (B + 18) (.inl (0, 6, .inl (upd (fA M B 18) v ((nI (0))))))) B 20 v = nI 0 := by rw [fA_of (hz_mne (va_up_self _ _ _) (by omega)), upd_s]
  have hag1 : agV M (va_up (va_up (va_up M B (.inr (12, (List.set fs 39 (.int (nI (F.length))))))) (B + 20) (.inl (0, 6, .inl (upd (fA M B 20) v ((nI (0))))))) (B + 18) (.inl (0, 6, .inl (upd (fA M B 18) v ((nI (0))))))) B v := agK hf1 (fun x hx => by rw [fA_of (va_up_self _ _ _)]; exact upd_o (by omega)) (fun x hx => by rw [fA_of (hz_mne (va_up_self _ _ _) (by omega))]; exact upd_o (by omega))
  generalize (va_up (va_up (va_up M B (.inr (12, (List.set fs 39 (.int (nI (F.length))))))) (B + 20) (.inl (0, 6, .inl (upd (fA M B 20) v ((nI (0))))))) (B + 18) (.inl (0, 6, .inl (upd (fA M B 18) v ((nI (0))))))) = M1 at *
  obtain ⟨fs1, hO1, hF1⟩ := id hf1.2.1
  have hA1 : isA (fA M1 B 35) 0 F := by rw [fA_m hf1 (by decide) rfl]; exact hA
  have g391 : fs1[39]? = some (.int (nI F.length)) := (fdB_of hO1 39).symm.trans h391
  have hkM : md_k B M z := hk0.mf hfr rfl rfl
  have hk1 : md_k B M1 z := hkM.mf hf1 rfl rfl
  refine hz_aloadn (pc := 50) 0 (hz_dec kX12_keepFirst 30 rfl) rfl ?_
  refine hz_aloadn (pc := 51) 0 (hz_dec kX12_keepFirst 31 rfl) rfl ?_
  refine hz_get (pc := 52) (v := .ref (B + 35)) (hz_dec kX12_keepFirst 32 rfl) fo_X12_116 hO1 h8 (by omega) (hF1.2 38 (by decide) (by decide)) ?_
  refine hz_iconst (pc := 55) (v := nI 0) (hz_dec kX12_keepFirst 33 rfl) (by decide) ?_
  refine hz_aloadn (pc := 56) 0 (hz_dec kX12_keepFirst 34 rfl) rfl ?_
  refine hz_get (pc := 57) (v := .int (nI (F.length))) (hz_dec kX12_keepFirst 35 rfl) fo_X12_422 hO1 h8 (by omega) g391 ?_
  refine hz_callV (pc := 60) (a := B) (As := [.ref (B + 35), .int (nI 0), .int (nI (F.length))]) (st := []) (hz_dec kX12_keepFirst 36 rfl) co_X12_437 im_X12_isBlock se_X12_isBlock rfl hO1 h8 (by omega) (c_isB hO1 hF1 h8 hz hE1.a14 hE1.a35 (by omega) (by omega) (by decide) (e := F.length) (by omega)) rfl (by decide) ⟨Nat.le_refl _, Nat.le_refl _⟩ (Nat.le_of_ble_eq_true rfl) rfl (fun r9 z9 M2 hp9 => ?_)
  obtain ⟨rfl, rfl, hf2_, s2, pc2, hO2_, h142, hs2⟩ := hp9
  have ha35 : ∀ i, i < F.length → fA M1 B 35 i = lf F i := fun i hi => by have q := hA1 i hi; rw [Nat.zero_add] at q; exact q
  have hbn0 : bk_n (fA M1 B 35) F.length = bkN F := bk_n_c ha35
  have hst0 : ∀ j, bk_st (fA M1 B 35) F.length j = bkS F j := fun j => (bk_st_c ha35 j).1
  rw [hbn0] at hs2
  have hf2 : mfr B [16] [14] M1 M2 := ⟨fun a ha => hf2_ a (fun o9 ho9 => ha o9 ho9), ⟨_, hO2_, md_set hF1 rfl⟩, fun k hk9 => by rw [fdB_of hO2_, fdB_of hO1]; exact List.getElem?_set_ne (fun c => by rw [← c] at hk9; cases hk9)⟩
  have hE2 : mdE M2 B := hE1.gen hf2 (A := []) (E := [14]) rfl sho_n (sho_c (shoA (by decide) h142) sho_n)
  have h16a : fdB M2 B 16 = some (.int (nI (bkN F))) := by rw [fdB_of hO2_, List.getElem?_set_self (by rw [hF1.1]; decide), (hs2 hW).1]
  have h14a : ∀ j, j ≤ bkN F → fA M2 B 14 j = nI (bkS F j) := fun j hj => by rw [fA_of h142, (hs2 hW).2 j hj, hst0]
  have hk2 : md_k B M2 z := hk1.mf hf2 rfl rfl
  obtain ⟨fs2, hO2, hF2x⟩ := id hf2.2.1
  have hA2 : isA (fA M2 B 35) 0 F := by rw [fA_m hf2 (by decide) rfl]; exact hA1
  refine hz_istoren (pc := 63) (i := 2) (lo2 := [(2, .int (hz_b (decide (¬ bk_n (fA M1 B 35) F.length = 0)))), (0, .ref B), (1, .int (nI v))]) (hz_dec kX12_keepFirst 37 rfl) rfl (by decide) rfl ?_
  refine hz_aloadn (pc := 64) 1 (hz_dec kX12_keepFirst 38 rfl) rfl ?_
  refine hz_aloadn (pc := 65) 1 (hz_dec kX12_keepFirst 39 rfl) rfl ?_
  refine hz_get (pc := 66) (v := .ref (B + 35)) (hz_dec kX12_keepFirst 40 rfl) fo_X12_116 hO2 h8 (by omega) (hF2x.2 38 (by decide) (by decide)) ?_
  refine hz_iconst (pc := 69) (v := nI 0) (hz_dec kX12_keepFirst 41 rfl) (by decide) ?_
  refine hz_bipush (pc := 70) (v := nI 80) (hz_dec kX12_keepFirst 42 rfl) (by decide) ?_
  refine hz_callV (pc := 72) (a := B) (As := [.ref (B + 35), .int (nI 0), .int (nI 80)]) (st := []) (hz_dec kX12_keepFirst 43 rfl) co_X12_412 im_X12_twiceOf se_X12_twiceOf rfl hO2 h8 (by omega) (c_twiceOf hk2 hE2.s (at_ := 0) (n := 80) hE2.a35 (by omega) (by omega) (by decide) (by decide)) rfl (by decide) ⟨Nat.le_refl _, Nat.le_refl _⟩ (Nat.le_of_ble_eq_true rfl) rfl (fun r9 z9 M3 hp9 => ?_)
  obtain ⟨rfl, rfl, hf3_, hs3, dg, hdg, hdx⟩ := hp9
  rw [shS_of (hdS_A hA2 (by omega)) (hdS_len F)] at hdx
  have hf3 : mfr B [] [3, 4, 5, 7] M2 M3 := mfr.ofl hk2.1 hf3_ rfl
  have hE3 : mdE M3 B := hE2.hs hf3 hs3 rfl
  have hk3 : md_k B M3 z := hk2.mf hf3 rfl rfl
  obtain ⟨fs3, hO3, hF3x⟩ := id hf3.2.1
  have hm13 : mfr B [16] [3, 4, 5, 7, 14] M1 M3 := (hf2.mono rfl rfl).tr (hf3.mono rfl rfl)
  have h53 : ∀ j, j < 32 → fA M3 B 5 j = lf (haS F) j := by
    intro j hj
    rw [fA_of hdg, hdx j hj]
    have q := lf_cutL (f := sh_dg (sh_2 (shS (hdS F)))) (a := 0) (n := 32) hj
    rw [Nat.zero_add] at q
    exact q.symm
  refine hz_aloadn (pc := 75) 1 (hz_dec kX12_keepFirst 44 rfl) rfl ?_
  refine hz_iloadn (pc := 76) 2 (hz_dec kX12_keepFirst 45 rfl) rfl ?_
  refine hz_iconst (pc := 77) (v := (-1)) (hz_dec kX12_keepFirst 46 rfl) (by decide) ?_
  refine hz_iconst (pc := 78) (v := (-1)) (hz_dec kX12_keepFirst 47 rfl) (by decide) ?_
  have hto : 0 + wkN (bn_int (lf F) 68) < 4294967296 ^ 9 := fi_to hRt
  refine hz_callV (pc := 79) (a := B) (As := [.int (nI v), .int (-1), .int (-1)]) (st := []) (hz_dec kX12_keepFirst 48 rfl) co_X12_449 im_X12_register se_X12_register rfl hO3 h8 (by omega) (c_regF (pl := -1) (n := 0) hk3 hE3 hv6 (by decide) (by rw [fA_m hm13 (by decide) rfl]; exact q201) hW (by rw [fA_m hf3 (by decide) rfl]; exact hA2) ((hm13.2.2 39 rfl).trans h391) (by rw [fA_m hf3 (by decide) rfl]; exact h14a) ((hf3.2.2 16 rfl).trans h16a) h53 hRt hto) rfl (by decide) ⟨Nat.le_refl _, Nat.le_refl _⟩ (Nat.le_of_ble_eq_true rfl) rfl (fun r9 z9 M4 hp9 => ?_)
  obtain ⟨rfl, rfl, hf4, hE4, hag4, hrg4⟩ := hp9
  obtain ⟨fs4, hO4, hF4x⟩ := id hf4.2.1
  refine hz_aloadn (pc := 82) 1 (hz_dec kX12_keepFirst 49 rfl) rfl ?_
  refine hz_get (pc := 83) (v := .ref (B + 21)) (hz_dec kX12_keepFirst 50 rfl) fo_X12_74 hO4 h8 (by omega) (hF4x.2 23 (by decide) (by decide)) ?_
  refine hz_iloadn (pc := 86) 2 (hz_dec kX12_keepFirst 51 rfl) rfl ?_
  refine hz_iconst (pc := 87) (v := nI 0) (hz_dec kX12_keepFirst 52 rfl) (by decide) ?_
  refine hz_iast (pc := 88) (j := v) (hz_dec kX12_keepFirst 53 rfl) hE4.a21 (by omega) (by omega) rfl (by omega) (by decide) ?_
  have hf5 : mfr B [] [21] M4 (va_up M4 (B + 21) (.inl (0, 6, .inl (upd (fA M4 B 21) v ((nI (0))))))) := (mfr.rf ⟨fs4, hO4, hF4x⟩).upA (o := 21) rfl (by decide)
  have hE5 : mdE (va_up M4 (B + 21) (.inl (0, 6, .inl (upd (fA M4 B 21) v ((nI (0))))))) B := hE4.upA (by decide)
  have hag5 : agV M4 (va_up M4 (B + 21) (.inl (0, 6, .inl (upd (fA M4 B 21) v ((nI (0))))))) B v := agV.rf.upA (o := 21) (s := 1) (by decide) (by decide) (fun x hx => upd_o (by omega))
  have p21 : fA (va_up M4 (B + 21) (.inl (0, 6, .inl (upd (fA M4 B 21) v ((nI (0))))))) B 21 v = nI 0 := by rw [fA_of (va_up_self _ _ _), upd_s]
  have e5 : ∀ o9, ¬ o9 = 0 → ¬ o9 = 21 → fA (va_up M4 (B + 21) (.inl (0, 6, .inl (upd (fA M4 B 21) v ((nI (0))))))) B o9 = fA M4 B o9 := fun o9 ho0 ho9 => fA_m hf5 ho0 (by simpa using ho9)
  have h34 : isA (fA M4 B 34) 0 F := by rw [fA_m hf4 (by decide) rfl, fA_m hm13 (by decide) rfl, fA_m hf1 (by decide) rfl, fA_m hfr (by decide) rfl]; exact hF.2
  obtain ⟨r1, r2, r3, r4, r5, r6, r7, r8, r9, r10, r11, -⟩ := id hrg4
  have hnb5 : nbX (fA (va_up M4 (B + 21) (.inl (0, 6, .inl (upd (fA M4 B 21) v ((nI (0))))))) B) (fL (va_up M4 (B + 21) (.inl (0, 6, .inl (upd (fA M4 B 21) v ((nI (0))))))) B) v [fiB F] 0 := by
    refine ⟨by rw [e5 20 (by decide) (by decide)]; exact r1, p21, fun k hk => ?_⟩
    rw [one_0 hk]
    rw [e5 25 (by decide) (by decide), e5 30 (by decide) (by decide), e5 31 (by decide) (by decide), e5 32 (by decide) (by decide), e5 24 (by decide) (by decide), e5 34 (by decide) (by decide), fL_c (hf5.at 33 (by decide) rfl)]
    exact ⟨r3, r8, r9, r10, r11, Or.inl ⟨r2, h34⟩⟩
  have hrv5 : rvX (fA (va_up M4 (B + 21) (.inl (0, 6, .inl (upd (fA M4 B 21) v ((nI (0))))))) B) v 1 (enB [fiB F]) := by
    intro y hy
    have hy0 : y = 0 := by rw [enB_len] at hy; exact one_0 hy
    subst hy0
    rw [e5 26 (by decide) (by decide), e5 27 (by decide) (by decide), e5 28 (by decide) (by decide), e5 29 (by decide) (by decide)]
    exact ⟨fun _ => ⟨r4, r5, r6, r7⟩, fun c => absurd c (by decide)⟩
  have hmz : mfr B [16, 39] [3, 4, 5, 7, 10, 11, 12, 13, 14, 18, 20, 21, 24, 25, 26, 27, 28, 29, 30, 31, 32, 33, 35, 36] M0 (va_up M4 (B + 21) (.inl (0, 6, .inl (upd (fA M4 B 21) v ((nI (0))))))) := (((((hfr.mono rfl rfl).tr (hf1.mono rfl rfl)).tr (hm13.mono rfl rfl)).tr (hf4.mono rfl rfl)).tr (hf5.mono rfl rfl))
  exact hz_vret (pc := 89) (hz_dec kX12_keepFirst 54 rfl) rfl ⟨rfl, rfl, hmz, hE5, (((((agV.mf hfr rfl rfl).tr hag1).tr (agV.mf hm13 rfl rfl)).tr hag4).tr hag5), ⟨hrv5, hnb5, fun k hk => Or.inl (by rw [one_0 hk]; exact hF2)⟩, by rw [e5 18 (by decide) (by decide), fA_m hf4 (by decide) rfl, fA_m hm13 (by decide) rfl]; exact q181, by rw [e5 24 (by decide) (by decide)]; exact r2⟩
set_option maxHeartbeats 4000000 in
set_option maxRecDepth 100000 in
theorem c_kF_l {κ : hz_C} {z B : Nat} {M0 : hz_M} (hk0 : md_k B M0 z) (hE0 : mdE M0 B) {v : Nat} (hv6 : v < 6) {F : by_L} (hF : fiM M0 B F) (hW : blW F) (hF2 : F.length ≤ 200) (hRt : tgR (bn_int (lf F) 68) = true) : ∀ k i M, k = F.length - i → i ≤ F.length → mfr B [] [35] M0 M → mdE M B → (∀ j, j < i → fA M B 35 j = lf F j) → hz_W κ xX12_keepFirst 6 0 0 (fun r z2 M2 => none = r ∧ z = z2 ∧ mfr B [16, 39] [3, 4, 5, 7, 10, 11, 12, 13, 14, 18, 20, 21, 24, 25, 26, 27, 28, 29, 30, 31, 32, 33, 35, 36] M0 M2 ∧ mdE M2 B ∧ agV M0 M2 B v ∧ mnB M2 B v [fiB F] (enB [fiB F]) 0 ∧ fA M2 B 18 v = nI 0 ∧ fA M2 B 24 (128 * v + 0) = -1) 0 0 2 [(2, .int (nI i)), (0, .ref B), (1, .int (nI v))] [] z M := by
  intro k
  induction k using Nat.strongRecOn with
  | ind k ih =>
  intro i M hk hi hfr hE h35
  obtain ⟨-, -, -, h8, hz⟩ := id hk0
  obtain ⟨hbf1, hbf2, hbf3, hbf4, hbf5, hbf6, hbf7⟩ := hW.f
  have hln9 := hW.len
  obtain ⟨fs, hO, hFF⟩ := id hfr.2.1
  have g37 : fs[37]? = some (.int (nI F.length)) := (fdB_of hO 37).symm.trans ((hfr.2.2 37 rfl).trans hF.1)
  have h34 : isA (fA M B 34) 0 F := by rw [fA_m hfr (by decide) rfl]; exact hF.2
  refine hz_bytes hE.a34 (by omega) (by omega) (fun hby => ?_)
  refine hz_iloadn (pc := 2) 0 (hz_dec kX12_keepFirst 2 rfl) rfl ?_
  refine hz_aloadn (pc := 3) 1 (hz_dec kX12_keepFirst 3 rfl) rfl ?_
  refine hz_get (pc := 4) (v := .int (nI (F.length))) (hz_dec kX12_keepFirst 4 rfl) fo_X12_434 hO h8 (by omega) g37 ?_
  refine hz_n_ge (pc := 7) (tgt := 28) (hz_dec kX12_keepFirst 5 rfl) (by decide) (by omega) (by omega) (fun h1 => ?_) (fun h1 => ?_)
  · skip
    have e : i = F.length := by omega
    rw [e] at h35
    refine hz_pick (pc := 28) [1, 2] rfl ?_
    exact c_kF_2 hk0 hE0 hv6 hF hW hF2 hRt hfr hE (fun j hj => by rw [Nat.zero_add]; exact h35 j hj)
  · skip
    refine hz_aloadn (pc := 10) 1 (hz_dec kX12_keepFirst 6 rfl) rfl ?_
    refine hz_get (pc := 11) (v := .ref (B + 35)) (hz_dec kX12_keepFirst 7 rfl) fo_X12_116 hO h8 (by omega) (hFF.2 38 (by decide) (by decide)) ?_
    refine hz_iloadn (pc := 14) 0 (hz_dec kX12_keepFirst 8 rfl) rfl ?_
    refine hz_aloadn (pc := 15) 1 (hz_dec kX12_keepFirst 9 rfl) rfl ?_
    refine hz_get (pc := 16) (v := .ref (B + 34)) (hz_dec kX12_keepFirst 10 rfl) fo_X12_113 hO h8 (by omega) (hFF.2 36 (by decide) (by decide)) ?_
    refine hz_iloadn (pc := 19) 0 (hz_dec kX12_keepFirst 11 rfl) rfl ?_
    refine hz_bald (pc := 20) (j := i) (hz_dec kX12_keepFirst 12 rfl) hE.a34 (by omega) (by omega) rfl (by omega) (by decide) ?_
    refine hz_bast (pc := 21) (j := i) (hz_dec kX12_keepFirst 13 rfl) hE.a35 (by omega) (by omega) rfl (by omega) (by decide) ?_
    refine hz_incN (pc := 22) (i := 2) (lo2 := [(2, .int (nI (i + 1))), (0, .ref B), (1, .int (nI v))]) 0 (hz_dec kX12_keepFirst 14 rfl) rfl (by decide) rfl ?_
    refine hz_goto (pc := 25) (tgt := 2) (hz_dec kX12_keepFirst 15 rfl) (by decide) ?_
    refine hz_pick (pc := 2) [0, 1, 2] rfl ?_
    refine ih (F.length - (i + 1)) (by omega) (i + 1) _ rfl (by omega) (hfr.upA (o := 35) rfl (by decide)) (hE.upA (by decide)) ?_
    rw [fA_of (va_up_self _ _ _)]
    intro q hq
    rcases (show q = i ∨ q < i by omega) with e | c
    · rw [e, upd_s, hby _ (by omega)]; have r := h34 i (by omega); rw [Nat.zero_add] at r; exact r
    · rw [upd_o (by omega)]; exact h35 q c
set_option maxHeartbeats 4000000 in
set_option maxRecDepth 100000 in
theorem c_kF {κ : hz_C} {z B : Nat} {M0 : hz_M} (hk0 : md_k B M0 z) (hE0 : mdE M0 B) {v : Nat} (hv6 : v < 6) {F : by_L} (hF : fiM M0 B F) (hW : blW F) (hF2 : F.length ≤ 200) (hRt : tgR (bn_int (lf F) 68) = true) : hz_Mt κ xX12_keepFirst 6 0 0 [.ref B, .int (nI v)] z M0 (fun r z2 M2 => none = r ∧ z = z2 ∧ mfr B [16, 39] [3, 4, 5, 7, 10, 11, 12, 13, 14, 18, 20, 21, 24, 25, 26, 27, 28, 29, 30, 31, 32, 33, 35, 36] M0 M2 ∧ mdE M2 B ∧ agV M0 M2 B v ∧ mnB M2 B v [fiB F] (enB [fiB F]) 0 ∧ fA M2 B 18 v = nI 0 ∧ fA M2 B 24 (128 * v + 0) = -1) := by
  refine hz_ent (lo := [(0, .ref B), (1, .int (nI v))]) (by decide) (Nat.le_of_ble_eq_true rfl) rfl ?_
  refine hz_iconst (pc := 0) (v := nI 0) (hz_dec kX12_keepFirst 0 rfl) (by decide) ?_
  refine hz_istoren (pc := 1) (i := 2) (lo2 := [(2, .int (nI 0)), (0, .ref B), (1, .int (nI v))]) (hz_dec kX12_keepFirst 1 rfl) rfl (by decide) rfl ?_
  refine hz_pick (pc := 2) [0, 1, 2] rfl ?_
  exact c_kF_l hk0 hE0 hv6 hF hW hF2 hRt F.length 0 M0 rfl (by omega) (mfr.rf hk0.1) hE0 (fun j hj => absurd hj (by omega))
