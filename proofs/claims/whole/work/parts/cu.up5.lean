/-! up: a record, the reference -/
theorem rc_A {g : Nat → Int32} {l : by_L} {p : Nat} (h : rcI g l p l.length) : isA g 0 (slS l p) := by
  intro j hj
  rw [slS_len] at hj
  rw [Nat.zero_add]
  rcases (show j = 0 ∨ j = 1 ∨ 2 ≤ j by omega) with c | c | c
  · rw [c]; exact h.1
  · rw [c]; exact h.2.1
  · have q := h.2.2 (j - 2) (by omega)
    rw [show 2 + (j - 2) = j by omega] at q
    rw [q]
    obtain ⟨i, e⟩ : ∃ i, j = i + 2 := ⟨j - 2, by omega⟩
    rw [e, show i + 2 - 2 = i by omega]
    rfl
def rdQ (M2 : hz_M) (B v : Nat) (N : nd_N) : Prop := fA M2 B 16 v = 1 ∧ (∀ j, j < 12288 → fA M2 B 17 (12288 * v + j) = ksD N.1 j) ∧ fA M2 B 18 v = nI (ksN N.1 + rdN N.1 + 6) ∧ fA M2 B 19 v = pvI (ksF N.1) ∧ mnB M2 B v (kpB N.1 (rdL N.1)) (enB (kpB N.1 (rdL N.1))) (kpT N.1 (rdL N.1)) ∧ poX (fA M2 B) (fL M2 B) v (ksP N.1) ∧ mnP M2 B v (kpB N.1 (rdL N.1)) (ksN N.1 + rdN N.1 + 6) ∧ orX (fA M2 B) v (mkO (ksL N.1)) ∧ fA M2 B 22 v = N.2.2.1 ∧ fA M2 B 23 v = N.2.2.2
def rdP (M0 : hz_M) (z B v : Nat) (H : ho_H) (N : nd_N) : hz_P := fun r z2 M2 => some (.int (hz_b (rdO N.1))) = r ∧ z = z2 ∧ mfr B [16, 39, 53, 54, 55, 59, 61] [3, 4, 5, 6, 7, 8, 9, 10, 11, 12, 13, 14, 15, 18, 20, 21, 24, 25, 26, 27, 28, 29, 30, 31, 32, 33, 35, 36, 42, 43, 44, 45, 46, 47, 48, 49, 50, 51, 52, 53, 68] M0 M2 ∧ mdE M2 B ∧ agV M0 M2 B v ∧ cvW M0 M2 B v ∧ (rdO N.1 = true → rdQ M2 B v N) ∧ (rdO N.1 = false → hmR M2 z B H)
set_option maxHeartbeats 4000000 in
set_option maxRecDepth 100000 in
theorem c_rr_5 {κ : hz_C} {z B : Nat} {M0 : hz_M} {H : ho_H} (hnn : (hoN H).length ≤ 6) (hR : hmR M0 z B H) {v : Nat} (hv : v < (hoN H).length) {N : nd_N} (hN : ndL (hoN H) v = N) (hup : N.2.1 = true) (hI : ksI N.1) (hb4 : rdN N.1 ≤ 3994) (hb5 : ksN N.1 + rdN N.1 + 6 ≤ 12288) (hok : rdO N.1 = true) {M3 : hz_M} (hf3 : mfr B [16, 39, 53, 54, 55, 59, 61] [3, 4, 5, 6, 7, 8, 9, 10, 11, 14, 15, 35, 42, 43, 44, 45, 46, 47, 48, 49, 50, 52, 53, 68] M0 M3) (hE3 : mdE M3 B) (hcv3 : cvK M0 M3 B v (ksB N.1) (enB (ksB N.1))) (hA3 : isA (fA M3 B 35) 0 (rdL N.1)) (h393 : fdB M3 B 39 = some (.int (nI (rdN N.1)))) (h533 : isA (fA M3 B 53) 0 (haS (rdL N.1))) (h613 : fdB M3 B 61 = some (.int (nI (pvF (ksB N.1) (rdL N.1))))) : hz_W κ xX12_readRecord 10 0 0 (rdP M0 z B v H N) 0 0 223 [(4, .int (nI (rdN N.1))), (3, .int (nI (12288 * v + ksN N.1))), (2, .int (nI (ksN N.1))), (0, .ref B), (1, .int (nI v))] [] z M3 := by
  obtain ⟨hk0, hE0, -, hNd0, -⟩ := id hR
  obtain ⟨-, -, -, h8, hz⟩ := id hk0
  have hv6 : v < 6 := by omega
  have h0 : mdN M0 B v N := by have q := hNd0 v hv; rw [hN] at q; exact q
  have h01 : mnS M0 B v 1 N.1 (pvI (ksF N.1)) (ksP N.1) := by have q := h0.1; rw [hup] at q; exact q
  obtain ⟨p1, p2, p3, p4, ⟨p5a, p5b, p5c⟩, p6, p7, p9⟩ := id h01
  have hnx : ksN N.1 ≤ 12288 := hI.1.2.2.2.1
  have hll : (rdL N.1).length = rdN N.1 := rdL_len N.1
  obtain ⟨c1, c2, c3, c4, c5, hj0⟩ := of_decide_eq_true hok
  obtain ⟨j1, j2, j3, j4, j5, j6⟩ := jBk_0 hj0
  have hRt := wkS_R j3
  have i1 := hI.1
  have hto := (i1.to j5 hRt).2
  have hln := j1.len
  have htt := i1.top
  have hnI := i1.app hj0 (by omega)
  have htop : (kpB N.1 (rdL N.1)).length ≤ 113 := hnI.top.2.1
  have hlb : (kpB N.1 (rdL N.1)).length = (ksB N.1).length + 1 := bl_len1 _ _
  have hbx := i1.2.2.2.2.2.1
  have hpe := i1.2.2.2.2.1.ht (k := pvF (ksB N.1) (rdL N.1)) (by rw [enB_len]; exact j5)
  have ht := hI.2.1
  refine hz_iconst (pc := 223) (v := nI 0) (hz_dec kX12_readRecord 135 rfl) (by decide) ?_
  refine hz_istore (pc := 224) (i := 5) (lo2 := [(5, .int (nI 0)), (4, .int (nI (rdN N.1))), (3, .int (nI (12288 * v + ksN N.1))), (2, .int (nI (ksN N.1))), (0, .ref B), (1, .int (nI v))]) (hz_dec kX12_readRecord 136 rfl) (by decide) rfl ?_
  refine hz_pick (pc := 226) [0, 1, 2, 3, 4, 5] rfl ?_
  refine c_rr_4 hnn hR hv hN hup hI hb4 hb5 hf3 rfl (fun M4 hf4 hE4 hag4 h514 h51o => ?_) (rdN N.1 + 6) 0 M3 rfl (by omega) (mfr.rf hf3.2.1) hE3 agV.rf (fun j hj => absurd hj (by omega)) (fun _ _ => rfl)
  obtain ⟨fs4, hO4, hF4⟩ := id hf4.2.1
  have hA4 : isA (fA M4 B 35) 0 (rdL N.1) := by rw [fA_m hf4 (by decide) rfl]; exact hA3
  have g394 : fs4[39]? = some (.int (nI (rdN N.1))) := (fdB_of hO4 39).symm.trans ((hf4.2.2 39 rfl).trans h393)
  have hk3 : md_k B M3 z := hk0.mf hf3 rfl rfl
  have hk4 : md_k B M4 z := hk3.mf hf4 rfl rfl
  refine hz_aloadn (pc := 260) 3 (hz_dec kX12_readRecord 156 rfl) rfl ?_
  refine hz_aloadn (pc := 261) 3 (hz_dec kX12_readRecord 157 rfl) rfl ?_
  refine hz_get (pc := 262) (v := .ref (B + 35)) (hz_dec kX12_readRecord 158 rfl) fo_X12_116 hO4 h8 (by omega) (hF4.2 38 (by decide) (by decide)) ?_
  refine hz_iconst (pc := 265) (v := nI 0) (hz_dec kX12_readRecord 159 rfl) (by decide) ?_
  refine hz_aloadn (pc := 266) 3 (hz_dec kX12_readRecord 160 rfl) rfl ?_
  refine hz_get (pc := 267) (v := .int (nI (rdN N.1))) (hz_dec kX12_readRecord 161 rfl) fo_X12_422 hO4 h8 (by omega) g394 ?_
  refine hz_callV (pc := 270) (a := B) (As := [.ref (B + 35), .int (nI 0), .int (nI (rdN N.1))]) (st := []) (hz_dec kX12_readRecord 162 rfl) co_X12_437 im_X12_isBlock se_X12_isBlock rfl hO4 h8 (by omega) (c_isB hO4 hF4 h8 hz hE4.a14 hE4.a35 (by omega) (by omega) (by decide) (e := rdN N.1) (by omega)) rfl (by decide) ⟨Nat.le_refl _, Nat.le_refl _⟩ (Nat.le_of_ble_eq_true rfl) rfl (fun r9 z9 M5 hp9 => ?_)
  obtain ⟨rfl, rfl, hf1_, s1, pc1, hO1_, h141, hs1⟩ := hp9
  have ha35 : ∀ i, i < rdN N.1 → fA M4 B 35 i = lf (rdL N.1) i := fun i hi => by have q := hA4 i (by omega); rw [Nat.zero_add] at q; exact q
  have hbn0 : bk_n (fA M4 B 35) (rdN N.1) = bkN (rdL N.1) := by rw [bk_n_c ha35]; unfold bkN; rw [hll]
  have hst0 : ∀ j, bk_st (fA M4 B 35) (rdN N.1) j = bkS (rdL N.1) j := fun j => by rw [(bk_st_c ha35 j).1]; unfold bkS; rw [hll]
  rw [hbn0] at hs1
  have hf5 : mfr B [16] [14] M4 M5 := ⟨fun a ha => hf1_ a (fun o9 ho9 => ha o9 ho9), ⟨_, hO1_, md_set hF4 rfl⟩, fun k hk9 => by rw [fdB_of hO1_, fdB_of hO4]; exact List.getElem?_set_ne (fun c => by rw [← c] at hk9; cases hk9)⟩
  have hE5 : mdE M5 B := hE4.gen hf5 (A := []) (E := [14]) rfl sho_n (sho_c (shoA (by decide) h141) sho_n)
  have h16a : fdB M5 B 16 = some (.int (nI (bkN (rdL N.1)))) := by rw [fdB_of hO1_, List.getElem?_set_self (by rw [hF4.1]; decide), (hs1 j1).1]
  have h14a : ∀ j, j ≤ bkN (rdL N.1) → fA M5 B 14 j = nI (bkS (rdL N.1) j) := fun j hj => by rw [fA_of h141, (hs1 j1).2 j hj, hst0]
  have h535 : isA (fA M5 B 53) 0 (haS (rdL N.1)) := by rw [fA_m hf5 (by decide) rfl, fA_m hf4 (by decide) rfl]; exact h533
  refine hz_istore (pc := 273) (i := 5) (lo2 := [(5, .int (hz_b (decide (¬ bk_n (fA M4 B 35) (rdN N.1) = 0)))), (4, .int (nI (rdN N.1))), (3, .int (nI (12288 * v + ksN N.1))), (2, .int (nI (ksN N.1))), (0, .ref B), (1, .int (nI v))]) (hz_dec kX12_readRecord 163 rfl) (by decide) rfl ?_
  refine hz_iconst (pc := 275) (v := nI 0) (hz_dec kX12_readRecord 164 rfl) (by decide) ?_
  refine hz_istore (pc := 276) (i := 6) (lo2 := [(6, .int (nI 0)), (5, .int (hz_b (decide (¬ bk_n (fA M4 B 35) (rdN N.1) = 0)))), (4, .int (nI (rdN N.1))), (3, .int (nI (12288 * v + ksN N.1))), (2, .int (nI (ksN N.1))), (0, .ref B), (1, .int (nI v))]) (hz_dec kX12_readRecord 165 rfl) (by decide) rfl ?_
  refine hz_pick (pc := 278) [0, 2, 3, 4, 5, 6] rfl ?_
  refine c_rr_d h8 hz (haS_len _) h535 (fun M6 hf6 hE6 h56 => ?_) 32 0 M5 rfl (by omega) (mfr.rf hf5.2.1) hE5 (fun j hj => absurd hj (by omega))
  obtain ⟨fs6, hO6, hF6⟩ := id hf6.2.1
  have hm46 : mfr B [16] [5, 14] M4 M6 := (hf5.mono rfl rfl).tr (hf6.mono rfl rfl)
  have hk6 : md_k B M6 z := hk4.mf hm46 rfl rfl
  have hm36 : mfr B [16] [5, 14, 51] M3 M6 := (hf4.mono rfl rfl).tr (hm46.mono rfl rfl)
  have hm06 : mfr B [16, 39, 53, 54, 55, 59, 61] [3, 4, 5, 6, 7, 8, 9, 10, 11, 12, 13, 14, 15, 18, 20, 21, 24, 25, 26, 27, 28, 29, 30, 31, 32, 33, 35, 36, 42, 43, 44, 45, 46, 47, 48, 49, 50, 51, 52, 53, 68] M0 M6 := (hf3.mono rfl rfl).tr (hm36.mono rfl rfl)
  have hR6 : rvX (fA M6 B) v (ksB N.1).length (enB (ksB N.1)) := ((p5a.mf hf3 rfl).mf hf4 rfl).mf hm46 rfl
  have e51lo : ∀ x, x < 12288 * v + ksN N.1 → fA M4 B 51 x = fA M0 B 51 x := fun x hx => (h51o x (Or.inl hx)).trans (congrFun (fA_m hf3 (by decide) rfl) x)
  have hN4 : nbX (fA M4 B) (fL M4 B) v (ksB N.1) (ksT N.1) := by
    have q3 := p5b.mf hf3 rfl
    obtain ⟨q31, q32, q33⟩ := q3
    have e4 : ∀ o9, ¬ o9 = 0 → ¬ o9 = 51 → fA M4 B o9 = fA M3 B o9 := fun o9 ho0 ho9 => fA_m hf4 ho0 (by simpa using ho9)
    refine ⟨by rw [e4 20 (by decide) (by decide)]; exact q31, by rw [e4 21 (by decide) (by decide)]; exact q32, fun k hk => ?_⟩
    obtain ⟨a1, a2, a3, a4, a5, a6⟩ := q33 k hk
    rw [e4 25 (by decide) (by decide), e4 30 (by decide) (by decide), e4 31 (by decide) (by decide), e4 32 (by decide) (by decide), fL_c (hf4.at 33 (by decide) rfl), e4 24 (by decide) (by decide), e4 34 (by decide) (by decide)]
    refine ⟨a1, a2, a3, a4, a5, ?_⟩
    have e24 : fA M3 B 24 = fA M0 B 24 := fA_m hf3 (by decide) rfl
    rcases a6 with a | ⟨p, b1, b2, b3⟩
    · exact Or.inl a
    · refine Or.inr ⟨p, b1, b2, fun j hj => ?_⟩
      rcases p9 k hk with d | ⟨q, d1, d2⟩
      · rw [e24, d] at b1
        exact absurd b1.symm (fun c9 => by have r := congrArg Int32.toInt c9; rw [nI_toInt (by omega)] at r; have r2 : (p : Int) = (-1 : Int) := r; omega)
      · have e : p = q := (nI_eq (by omega) (by omega)).mp (b1.symm.trans ((congrFun e24 _).trans d1))
        rw [h51o _ (Or.inl (by omega))]
        exact b3 j hj
  have hN6 := hN4.mf hm46 rfl
  have q186 : fA M6 B 18 v = nI (ksN N.1) := by rw [fA_m hm36 (by decide) rfl, fA_m hf3 (by decide) rfl]; exact p3
  have q206 : fA M6 B 20 v = nI (ksB N.1).length := hN6.1
  have q27 : fA M6 B 27 (128 * v + pvF (ksB N.1) (rdL N.1)) = nI (eH (enB (ksB N.1)) (pvF (ksB N.1) (rdL N.1))) := ((hR6 (pvF (ksB N.1) (rdL N.1)) (by rw [enB_len]; exact j5)).1 j5).2.1
  have q31 : bg (fA M6 B 31) (9 * (128 * v + pvF (ksB N.1) (rdL N.1))) 9 = bTo (ksB N.1) (pvF (ksB N.1) (rdL N.1)) := (hN6.2.2 (pvF (ksB N.1) (rdL N.1)) j5).2.2.1
  have g616 : fs6[61]? = some (.int (nI (pvF (ksB N.1) (rdL N.1)))) := (fdB_of hO6 61).symm.trans ((hm36.2.2 61 rfl).trans h613)
  refine hz_aloadn (pc := 305) 3 (hz_dec kX12_readRecord 179 rfl) rfl ?_
  refine hz_get (pc := 306) (v := .ref (B + 20)) (hz_dec kX12_readRecord 180 rfl) fo_X12_71 hO6 h8 (by omega) (hF6.2 22 (by decide) (by decide)) ?_
  refine hz_iloadn (pc := 309) 4 (hz_dec kX12_readRecord 181 rfl) rfl ?_
  refine hz_iald (pc := 310) (j := v) (hz_dec kX12_readRecord 182 rfl) hE6.a20 (by omega) (by omega) rfl (by omega) (by decide) ?_
  refine hz_eqi (pc := 311) q206 ?_
  refine hz_istore (pc := 311) (i := 6) (lo2 := [(6, .int (nI ((ksB N.1).length))), (4, .int (nI (rdN N.1))), (3, .int (nI (12288 * v + ksN N.1))), (2, .int (nI (ksN N.1))), (0, .ref B), (1, .int (nI v))]) (hz_dec kX12_readRecord 183 rfl) (by decide) rfl ?_
  refine hz_aloadn (pc := 313) 4 (hz_dec kX12_readRecord 184 rfl) rfl ?_
  refine hz_iloadn (pc := 314) 5 (hz_dec kX12_readRecord 185 rfl) rfl ?_
  refine hz_iloadn (pc := 315) 3 (hz_dec kX12_readRecord 186 rfl) rfl ?_
  refine hz_aloadn (pc := 316) 4 (hz_dec kX12_readRecord 187 rfl) rfl ?_
  refine hz_get (pc := 317) (v := .int (nI (pvF (ksB N.1) (rdL N.1)))) (hz_dec kX12_readRecord 188 rfl) fo_X12_541 hO6 h8 (by omega) g616 ?_
  have h396 : fdB M6 B 39 = some (.int (nI (rdL N.1).length)) := by rw [hll]; exact (hm36.2.2 39 rfl).trans h393
  refine hz_callV (pc := 320) (a := B) (As := [.int (nI v), .int (nI (ksN N.1)), .int (nI (pvF (ksB N.1) (rdL N.1)))]) (st := []) (hz_dec kX12_readRecord 189 rfl) co_X12_449 im_X12_register se_X12_register rfl hO6 h8 (by omega) (c_regP (pl := nI (ksN N.1)) hk6 hE6 hv6 (by omega) q206 j1 (by rw [fA_m hm46 (by decide) rfl]; exact hA4) h396 (by rw [fA_m hf6 (by decide) rfl]; exact h14a) ((hf6.2.2 16 rfl).trans h16a) h56 j5 q27 (by omega) hRt (by rw [q31]; exact Nat.lt_of_lt_of_le hto (by decide))) rfl (by decide) ⟨Nat.le_refl _, Nat.le_refl _⟩ (Nat.le_of_ble_eq_true rfl) rfl (fun r9 z9 M7 hp9 => ?_)
  obtain ⟨rfl, rfl, hf7, hE7, hag7, hrg7⟩ := hp9
  obtain ⟨fs7, hO7, hF7⟩ := id hf7.2.1
  have hAr : isA (fA M6 B 51) (12288 * v + ksN N.1 + 2) (rdL N.1) := by
    rw [fA_m hm46 (by decide) rfl]
    intro j hj
    rw [hll] at hj
    rw [show 12288 * v + ksN N.1 + 2 + j = 12288 * v + ksN N.1 + (2 + j) by omega, h514 (2 + j) (by omega)]
    rw [show ksN N.1 + (2 + j) = ksN N.1 + 2 + j by omega]
    exact (lf_cutL hj).symm
  have hnb7 : nbX (fA M7 B) (fL M7 B) v (kpB N.1 (rdL N.1)) (ksT N.1) := rgX.nb (nx := 0) (pv := some (pvF (ksB N.1) (rdL N.1))) (en := enB (ksB N.1)) hN6 hrg7 hbx (by rw [q31]; rfl) (by rw [fA_m hf7 (by decide) rfl]) (fA_m hf7 (by decide) rfl) (fA_m hf7 (by decide) rfl) (Or.inr ⟨ksN N.1, rfl, by omega, hAr⟩)
  have hrv7 : rvX (fA M7 B) v (kpB N.1 (rdL N.1)).length (enB (kpB N.1 (rdL N.1))) := by rw [hlb]; unfold kpB; rw [enB_app]; exact rgX.rv (pv := some (pvF (ksB N.1) (rdL N.1))) hR6 (enB_len _) i1.2.2.2.2.1 hrg7 rfl (fun q hq => by cases hq; exact j5)
  have o24 := hrg7.2.2.2.2.2.2.2.2.2.2.2.1 24 (by decide)
  have n24 : fA M7 B 24 (128 * v + (ksB N.1).length) = nI (ksN N.1) := hrg7.2.1
  have b24 : fA M6 B 24 = fA M0 B 24 := (fA_m hm36 (by decide) rfl).trans (fA_m hf3 (by decide) rfl)
  have hmnb7 : mnB M7 B v (kpB N.1 (rdL N.1)) (enB (kpB N.1 (rdL N.1))) (ksT N.1) := by
    refine ⟨hrv7, hnb7, fun k hk => ?_⟩
    rcases (show k = (ksB N.1).length ∨ k < (ksB N.1).length by omega) with e | c
    · rw [e, n24]; exact Or.inr (fun c9 => by have r := congrArg Int32.toInt c9; rw [nI_toInt (by omega)] at r; have r2 : (ksN N.1 : Int) = (-1 : Int) := r; omega)
    · rw [o24 _ (by omega), b24]; unfold kpB; rw [bBy_app c]; exact p5c k c
  have hmpl7 : mnP M7 B v (kpB N.1 (rdL N.1)) (ksN N.1 + rdN N.1 + 6) := by
    intro k hk
    rcases (show k = (ksB N.1).length ∨ k < (ksB N.1).length by omega) with e | c
    · refine Or.inr ⟨ksN N.1, by rw [e]; exact n24, ?_⟩; rw [e]; unfold kpB; rw [bBy_last]; show ksN N.1 + (rdL N.1).length + 6 ≤ _; omega
    · rw [o24 _ (by omega), b24]; unfold kpB; rw [bBy_app c]; rcases p9 k c with d | ⟨p, d1, d2⟩; exact Or.inl d; exact Or.inr ⟨p, d1, by omega⟩
  have q217 : fA M7 B 21 v = nI (ksT N.1) := hnb7.2.1
  have et1 : bTo (kpB N.1 (rdL N.1)) (ksT N.1) = bTo (ksB N.1) (ksT N.1) := by unfold kpB bTo; rw [bkL_app ht]
  have et2 : bTo (kpB N.1 (rdL N.1)) (ksB N.1).length = bTo (ksB N.1) (pvF (ksB N.1) (rdL N.1)) + wkN (bn_int (lf (rdL N.1)) 68) := by unfold kpB bTo; rw [bkL_last]; rfl
  refine hz_aloadn (pc := 323) 4 (hz_dec kX12_readRecord 190 rfl) rfl ?_
  refine hz_get (pc := 324) (v := .ref (B + 18)) (hz_dec kX12_readRecord 191 rfl) fo_X12_65 hO7 h8 (by omega) (hF7.2 20 (by decide) (by decide)) ?_
  refine hz_iloadn (pc := 327) 5 (hz_dec kX12_readRecord 192 rfl) rfl ?_
  refine hz_iloadn (pc := 328) 3 (hz_dec kX12_readRecord 193 rfl) rfl ?_
  refine hz_iload (pc := 329) 1 (hz_dec kX12_readRecord 194 rfl) rfl ?_
  refine hz_addN (pc := 331) (hz_dec kX12_readRecord 195 rfl) ?_
  refine hz_bipush (pc := 332) (v := nI 6) (hz_dec kX12_readRecord 196 rfl) (by decide) ?_
  refine hz_addN (pc := 334) (hz_dec kX12_readRecord 197 rfl) ?_
  refine hz_iast (pc := 335) (j := v) (hz_dec kX12_readRecord 198 rfl) hE7.a18 (by omega) (by omega) rfl (by omega) (by decide) ?_
  have hf8 : mfr B [] [18] M7 (va_up M7 (B + 18) (.inl (0, 6, .inl (upd (fA M7 B 18) v ((nI (((ksN N.1) + (rdN N.1)) + 6))))))) := (mfr.rf ⟨fs7, hO7, hF7⟩).upA (o := 18) rfl (by decide)
  have hE8 : mdE (va_up M7 (B + 18) (.inl (0, 6, .inl (upd (fA M7 B 18) v ((nI (((ksN N.1) + (rdN N.1)) + 6))))))) B := hE7.upA (by decide)
  have hag8 : agV M7 (va_up M7 (B + 18) (.inl (0, 6, .inl (upd (fA M7 B 18) v ((nI (((ksN N.1) + (rdN N.1)) + 6))))))) B v := agV.rf.upA (o := 18) (s := 1) (by decide) (by decide) (fun x hx => upd_o (by omega))
  have q188 : fA (va_up M7 (B + 18) (.inl (0, 6, .inl (upd (fA M7 B 18) v ((nI (((ksN N.1) + (rdN N.1)) + 6))))))) B 18 v = nI (ksN N.1 + rdN N.1 + 6) := by rw [fA_of (va_up_self _ _ _), upd_s]
  generalize (va_up M7 (B + 18) (.inl (0, 6, .inl (upd (fA M7 B 18) v ((nI (((ksN N.1) + (rdN N.1)) + 6))))))) = M8 at *
  obtain ⟨fs8, hO8, hF8⟩ := id hf8.2.1
  have hmnb8 : mnB M8 B v (kpB N.1 (rdL N.1)) (enB (kpB N.1 (rdL N.1))) (ksT N.1) := hmnb7.mf hf8 rfl
  have q218 : fA M8 B 21 v = nI (ksT N.1) := hmnb8.2.1.2.1
  have hm07 : mfr B [16, 39, 53, 54, 55, 59, 61] [3, 4, 5, 6, 7, 8, 9, 10, 11, 12, 13, 14, 15, 18, 20, 21, 24, 25, 26, 27, 28, 29, 30, 31, 32, 33, 35, 36, 42, 43, 44, 45, 46, 47, 48, 49, 50, 51, 52, 53, 68] M0 M7 := hm06.tr (hf7.mono rfl rfl)
  have hm08 : mfr B [16, 39, 53, 54, 55, 59, 61] [3, 4, 5, 6, 7, 8, 9, 10, 11, 12, 13, 14, 15, 18, 20, 21, 24, 25, 26, 27, 28, 29, 30, 31, 32, 33, 35, 36, 42, 43, 44, 45, 46, 47, 48, 49, 50, 51, 52, 53, 68] M0 M8 := hm07.tr (hf8.mono rfl rfl)
  have hag3 : agV M0 M3 B v := agV.mf hf3 rfl rfl
  have hag46 : agV M4 M6 B v := agV.mf hm46 rfl rfl
  have hag08 : agV M0 M8 B v := (((hag3.tr hag4).tr hag46).tr hag7).tr hag8
  have hcw08 : cvW M0 M8 B v := (((hcv3.w.tr (cvK.mf hf4 rfl rfl rfl rfl (bl := []) (en := [])).w).tr (cvK.mf hm46 rfl rfl rfl rfl (bl := []) (en := [])).w).tr (cvK.mf hf7 rfl rfl rfl rfl (bl := []) (en := [])).w).tr (cvK.mf hf8 rfl rfl rfl rfl (bl := []) (en := [])).w
  have hmpl8 : mnP M8 B v (kpB N.1 (rdL N.1)) (ksN N.1 + rdN N.1 + 6) := by unfold mnP; rw [fA_m hf8 (by decide) rfl]; exact hmpl7
  have h02 : orX (fA M0 B) v (mkO (ksL N.1)) := by have q := h0.2.1; rw [hup] at q; exact q
  refine hz_aloadn (pc := 336) 4 (hz_dec kX12_readRecord 199 rfl) rfl ?_
  refine hz_get (pc := 337) (v := .ref (B + 21)) (hz_dec kX12_readRecord 200 rfl) fo_X12_74 hO8 h8 (by omega) (hF8.2 23 (by decide) (by decide)) ?_
  refine hz_iloadn (pc := 340) 5 (hz_dec kX12_readRecord 201 rfl) rfl ?_
  refine hz_aloadn (pc := 341) 4 (hz_dec kX12_readRecord 202 rfl) rfl ?_
  refine hz_iloadn (pc := 342) 5 (hz_dec kX12_readRecord 203 rfl) rfl ?_
  refine hz_iload (pc := 343) 0 (hz_dec kX12_readRecord 204 rfl) rfl ?_
  refine hz_aloadn (pc := 345) 4 (hz_dec kX12_readRecord 205 rfl) rfl ?_
  refine hz_get (pc := 346) (v := .ref (B + 21)) (hz_dec kX12_readRecord 206 rfl) fo_X12_74 hO8 h8 (by omega) (hF8.2 23 (by decide) (by decide)) ?_
  refine hz_iloadn (pc := 349) 5 (hz_dec kX12_readRecord 207 rfl) rfl ?_
  refine hz_iald (pc := 350) (j := v) (hz_dec kX12_readRecord 208 rfl) hE8.a21 (by omega) (by omega) rfl (by omega) (by decide) ?_
  refine hz_eqi (pc := 351) q218 ?_
  refine hz_xV (pc := 351) (a := B) (As := [.int (nI v), .int (nI ((ksB N.1).length)), .int (nI (ksT N.1))]) (st := [.int (nI v), .ref (B + 21)]) (hz_dec kX12_readRecord 209 rfl) co_X12_594 im_X12_isAbove se_X12_isAbove rfl hO8 h8 (by omega) (c_mAb hf8.2.1 hE8 h8 hz hv6 (by omega : (kpB N.1 (rdL N.1)).length ≤ 128) hmnb8.2.1 (x := (ksB N.1).length) (y := ksT N.1) (show (ksB N.1).length < (kpB N.1 (rdL N.1)).length by omega) (show ksT N.1 < (kpB N.1 (rdL N.1)).length by omega)) rfl (by decide) ⟨Nat.le_refl _, Nat.le_refl _⟩ (Nat.le_of_ble_eq_true rfl) rfl ?_
  refine hz_if_eq (pc := 354) (tgt := 362) (hz_dec kX12_readRecord 210 rfl) (by decide) (fun h1 => ?_) (fun h1 => ?_)
  · skip
    have eT : kpT N.1 (rdL N.1) = ksT N.1 := by unfold kpT tipN; have q := of_decide_eq_false (hz_b0 h1); rw [et1, et2] at q; exact if_neg q
    refine hz_aloadn (pc := 362) 4 (hz_dec kX12_readRecord 213 rfl) rfl ?_
    refine hz_get (pc := 363) (v := .ref (B + 21)) (hz_dec kX12_readRecord 214 rfl) fo_X12_74 hO8 h8 (by omega) (hF8.2 23 (by decide) (by decide)) ?_
    refine hz_iloadn (pc := 366) 5 (hz_dec kX12_readRecord 215 rfl) rfl ?_
    refine hz_iald (pc := 367) (j := v) (hz_dec kX12_readRecord 216 rfl) hE8.a21 (by omega) (by omega) rfl (by omega) (by decide) ?_
    refine hz_eqi (pc := 368) q218 ?_
    refine hz_iast (pc := 368) (j := v) (hz_dec kX12_readRecord 217 rfl) hE8.a21 (by omega) (by omega) rfl (by omega) (by decide) ?_
    refine hz_iconst (pc := 369) (v := nI 1) (hz_dec kX12_readRecord 218 rfl) (by decide) ?_
    have hf9 : mfr B [] [21] M8 (va_up M8 (B + 21) (.inl (0, 6, .inl (upd (fA M8 B 21) v ((nI (ksT N.1))))))) := (mfr.rf ⟨fs8, hO8, hF8⟩).upA (o := 21) rfl (by decide)
    have hE9 : mdE (va_up M8 (B + 21) (.inl (0, 6, .inl (upd (fA M8 B 21) v ((nI (ksT N.1))))))) B := hE8.upA (by decide)
    have hag9 : agV M8 (va_up M8 (B + 21) (.inl (0, 6, .inl (upd (fA M8 B 21) v ((nI (ksT N.1))))))) B v := agV.rf.upA (o := 21) (s := 1) (by decide) (by decide) (fun x hx => upd_o (by omega))
    have p21 : fA (va_up M8 (B + 21) (.inl (0, 6, .inl (upd (fA M8 B 21) v ((nI (ksT N.1))))))) B 21 v = nI (kpT N.1 (rdL N.1)) := by rw [fA_of (va_up_self _ _ _), upd_s, eT]
    have mnb9 : mnB (va_up M8 (B + 21) (.inl (0, 6, .inl (upd (fA M8 B 21) v ((nI (ksT N.1))))))) B v (kpB N.1 (rdL N.1)) (enB (kpB N.1 (rdL N.1))) (kpT N.1 (rdL N.1)) := by
      obtain ⟨a1, a2, a3⟩ := hmnb8
      refine ⟨a1.mf hf9 rfl, ?_, by rw [fA_m hf9 (by decide) rfl]; exact a3⟩
      have a2b := a2
      unfold nbX at a2b ⊢
      rw [fA_m (o := 20) hf9 (by decide) rfl, fA_m (o := 24) hf9 (by decide) rfl, fA_m (o := 25) hf9 (by decide) rfl, fA_m (o := 30) hf9 (by decide) rfl, fA_m (o := 31) hf9 (by decide) rfl, fA_m (o := 32) hf9 (by decide) rfl, fA_m (o := 34) hf9 (by decide) rfl, fA_m (o := 51) hf9 (by decide) rfl, fL_c (hf9.at 33 (by decide) rfl)]
      exact ⟨a2b.1, p21, a2b.2.2⟩
    have hm09 : mfr B [16, 39, 53, 54, 55, 59, 61] [3, 4, 5, 6, 7, 8, 9, 10, 11, 12, 13, 14, 15, 18, 20, 21, 24, 25, 26, 27, 28, 29, 30, 31, 32, 33, 35, 36, 42, 43, 44, 45, 46, 47, 48, 49, 50, 51, 52, 53, 68] M0 (va_up M8 (B + 21) (.inl (0, 6, .inl (upd (fA M8 B 21) v ((nI (ksT N.1))))))) := hm08.tr (hf9.mono rfl rfl)
    have hQ : rdQ (va_up M8 (B + 21) (.inl (0, 6, .inl (upd (fA M8 B 21) v ((nI (ksT N.1))))))) B v N := ⟨by rw [fA_m hm09 (by decide) rfl]; exact p1, by rw [fA_m hm09 (by decide) rfl]; exact p2, by rw [fA_m hf9 (by decide) rfl]; exact q188, by rw [fA_m hm09 (by decide) rfl]; exact p4, mnb9, p6.mf hm09 rfl, by unfold mnP; rw [fA_m hf9 (by decide) rfl]; exact hmpl8, h02.mf hm09 rfl, by rw [fA_m hm09 (by decide) rfl]; exact h0.2.2.1, by rw [fA_m hm09 (by decide) rfl]; exact h0.2.2.2⟩
    exact hz_zret (pc := 370) (hz_dec kX12_readRecord 219 rfl) rfl rfl ⟨by rw [hok]; rfl, rfl, hm09, hE9, hag08.tr hag9, hcw08.tr (cvK.mf hf9 rfl rfl rfl rfl (bl := []) (en := [])).w, fun _ => hQ, fun c => (by rw [hok] at c; cases c)⟩
  · skip
    have eT : kpT N.1 (rdL N.1) = (ksB N.1).length := by unfold kpT tipN; have q := of_decide_eq_true (hz_b1 h1); rw [et1, et2] at q; exact if_pos q
    refine hz_iload (pc := 357) 0 (hz_dec kX12_readRecord 211 rfl) rfl ?_
    refine hz_goto (pc := 359) (tgt := 368) (hz_dec kX12_readRecord 212 rfl) (by decide) ?_
    refine hz_iast (pc := 368) (j := v) (hz_dec kX12_readRecord 217 rfl) hE8.a21 (by omega) (by omega) rfl (by omega) (by decide) ?_
    refine hz_iconst (pc := 369) (v := nI 1) (hz_dec kX12_readRecord 218 rfl) (by decide) ?_
    have hf9 : mfr B [] [21] M8 (va_up M8 (B + 21) (.inl (0, 6, .inl (upd (fA M8 B 21) v ((nI ((ksB N.1).length))))))) := (mfr.rf ⟨fs8, hO8, hF8⟩).upA (o := 21) rfl (by decide)
    have hE9 : mdE (va_up M8 (B + 21) (.inl (0, 6, .inl (upd (fA M8 B 21) v ((nI ((ksB N.1).length))))))) B := hE8.upA (by decide)
    have hag9 : agV M8 (va_up M8 (B + 21) (.inl (0, 6, .inl (upd (fA M8 B 21) v ((nI ((ksB N.1).length))))))) B v := agV.rf.upA (o := 21) (s := 1) (by decide) (by decide) (fun x hx => upd_o (by omega))
    have p21 : fA (va_up M8 (B + 21) (.inl (0, 6, .inl (upd (fA M8 B 21) v ((nI ((ksB N.1).length))))))) B 21 v = nI (kpT N.1 (rdL N.1)) := by rw [fA_of (va_up_self _ _ _), upd_s, eT]
    have mnb9 : mnB (va_up M8 (B + 21) (.inl (0, 6, .inl (upd (fA M8 B 21) v ((nI ((ksB N.1).length))))))) B v (kpB N.1 (rdL N.1)) (enB (kpB N.1 (rdL N.1))) (kpT N.1 (rdL N.1)) := by
      obtain ⟨a1, a2, a3⟩ := hmnb8
      refine ⟨a1.mf hf9 rfl, ?_, by rw [fA_m hf9 (by decide) rfl]; exact a3⟩
      have a2b := a2
      unfold nbX at a2b ⊢
      rw [fA_m (o := 20) hf9 (by decide) rfl, fA_m (o := 24) hf9 (by decide) rfl, fA_m (o := 25) hf9 (by decide) rfl, fA_m (o := 30) hf9 (by decide) rfl, fA_m (o := 31) hf9 (by decide) rfl, fA_m (o := 32) hf9 (by decide) rfl, fA_m (o := 34) hf9 (by decide) rfl, fA_m (o := 51) hf9 (by decide) rfl, fL_c (hf9.at 33 (by decide) rfl)]
      exact ⟨a2b.1, p21, a2b.2.2⟩
    have hm09 : mfr B [16, 39, 53, 54, 55, 59, 61] [3, 4, 5, 6, 7, 8, 9, 10, 11, 12, 13, 14, 15, 18, 20, 21, 24, 25, 26, 27, 28, 29, 30, 31, 32, 33, 35, 36, 42, 43, 44, 45, 46, 47, 48, 49, 50, 51, 52, 53, 68] M0 (va_up M8 (B + 21) (.inl (0, 6, .inl (upd (fA M8 B 21) v ((nI ((ksB N.1).length))))))) := hm08.tr (hf9.mono rfl rfl)
    have hQ : rdQ (va_up M8 (B + 21) (.inl (0, 6, .inl (upd (fA M8 B 21) v ((nI ((ksB N.1).length))))))) B v N := ⟨by rw [fA_m hm09 (by decide) rfl]; exact p1, by rw [fA_m hm09 (by decide) rfl]; exact p2, by rw [fA_m hf9 (by decide) rfl]; exact q188, by rw [fA_m hm09 (by decide) rfl]; exact p4, mnb9, p6.mf hm09 rfl, by unfold mnP; rw [fA_m hf9 (by decide) rfl]; exact hmpl8, h02.mf hm09 rfl, by rw [fA_m hm09 (by decide) rfl]; exact h0.2.2.1, by rw [fA_m hm09 (by decide) rfl]; exact h0.2.2.2⟩
    exact hz_zret (pc := 370) (hz_dec kX12_readRecord 219 rfl) rfl rfl ⟨by rw [hok]; rfl, rfl, hm09, hE9, hag08.tr hag9, hcw08.tr (cvK.mf hf9 rfl rfl rfl rfl (bl := []) (en := [])).w, fun _ => hQ, fun c => (by rw [hok] at c; cases c)⟩
