/-! the reference: store, its loops -/
/-- the orphans while those behind block kk are gone through -/
def olY (kk : Nat) (ol ol2 : List or_O) : Prop := ol2.length = ol.length ∧ ∀ j, j < ol.length → (orL ol2 j).1 = (orL ol j).1 ∧ ((orL ol2 j).2 = (orL ol j).2 ∨ ((orL ol j).2 = 1 ∧ ((orL ol2 j).2 = 2 ∨ (orL ol2 j).2 = 2 + kk)))
theorem olY.x {kk : Nat} {ol ol2 : List or_O} (h : olY kk ol ol2) (hno : ∀ j, j < ol2.length → ¬ (orL ol2 j).2 = 2 + kk) : olX ol ol2 := by
  refine ⟨h.1, fun j hj => ?_⟩
  obtain ⟨q1, q2⟩ := h.2 j hj
  refine ⟨q1, ?_⟩
  rcases q2 with e | ⟨e, e2 | e2⟩
  · exact Or.inl e
  · exact Or.inr ⟨e, e2⟩
  · exact absurd e2 (hno j (by rw [h.1]; exact hj))
theorem olY.tr {kk : Nat} {ol ol2 ol3 : List or_O} (h : olY kk ol ol2) (hk : 1 ≤ kk) (x : olX ol2 ol3) : olY kk ol ol3 := by
  refine ⟨x.1.trans h.1, fun j hj => ?_⟩
  obtain ⟨q1, q2⟩ := h.2 j hj
  obtain ⟨x1, x2⟩ := x.2 j (by rw [h.1]; exact hj)
  refine ⟨x1.trans q1, ?_⟩
  rcases x2 with e | ⟨e, e2⟩
  · rw [e]; exact q2
  · rcases q2 with c | ⟨c, c2 | c2⟩
    · exact Or.inr ⟨by omega, Or.inl e2⟩
    · omega
    · omega
theorem olY.z {kk : Nat} {ol ol2 : List or_O} (h : olY kk ol ol2) {i : Nat} (hi : i < ol2.length) (hs : (orL ol2 i).2 = 2 + kk) (h0 : ¬ (orL ol i).2 = 2 + kk) : olY kk ol (orZ ol2 i) := by
  refine ⟨by rw [orZ_len]; exact h.1, fun j hj => ?_⟩
  obtain ⟨q1, q2⟩ := h.2 j hj
  rw [orZ_at hi]
  split
  · rename_i c
    rw [c] at q1 q2 ⊢
    refine ⟨q1, ?_⟩
    rcases q2 with e | ⟨e, -⟩
    · exact absurd (e.symm.trans hs) h0
    · exact Or.inr ⟨e, Or.inl rfl⟩
  · exact ⟨q1, q2⟩
theorem orM_y {kk : Nat} {h : by_L} {ol : List or_O} : olY kk ol (orM kk h ol) := by
  refine ⟨orM_len _ _ _, fun j hj => ?_⟩
  rw [orM_at hj, orM1_b]
  refine ⟨rfl, ?_⟩
  unfold orM1
  split
  · rename_i c; exact Or.inr ⟨c.1, Or.inr rfl⟩
  · exact Or.inl rfl
set_option maxHeartbeats 4000000 in
set_option maxRecDepth 100000 in
theorem c_st_l {κ : hz_C} {z B nn v : Nat} {now but : Int32} {dl : Nat → Nat} (h8 : 8 ≤ B) (hz : B + 88 ≤ z) (hnn : nn ≤ 6) (hvn : v < nn) {f : Nat} (IH : msC κ z B nn v now but dl f) {M0 : hz_M} (hk0 : md_k B M0 z) {ol0 : List or_O} {bl0 : List bk_B} (hst0 : stX ol0 bl0) {l : by_L} {kk : Nat} (hkk : kk = bl0.length) (hk1 : 1 ≤ kk) (hk9 : kk < 900) {R0 : ks_S × Bool} : ∀ t i m S M ol, t = ol.length - i → i ≤ ol.length → ol.length ≤ m + i → mfr B [16, 39, 53, 54, 55, 59, 61, 86, 87, 88] [3, 4, 5, 6, 7, 8, 9, 10, 11, 12, 13, 14, 15, 16, 17, 18, 19, 20, 21, 24, 25, 26, 27, 28, 29, 30, 31, 32, 33, 35, 36, 42, 43, 44, 45, 46, 47, 48, 49, 50, 51, 52, 53, 54, 55, 56, 57, 58, 59, 60, 61, 62, 63, 64, 65, 66, 67, 68, 70, 71, 72, 73, 74, 75, 76] M0 M → mdE M B → agV M0 M B v → cvW M0 M B v → mgR M B nn now dl (ksQ S) → mnS M B v 1 S (pvI (ksF S)) (ksP S) → orX (fA M B) v ol → orW ol → stX ol (ksB S) → ksL S = loO ol → dueX ol kk (haS l) → (∀ j, j < i → ¬ (orL ol j).2 = 2 + kk) → ksI S → (ksL S).length ≤ f → olY kk ol0 ol → (∃ e9, ksB S = bl0 ++ e9) → kk < (ksB S).length → bBy (ksB S) kk = l → kpL (kp nn dl now v but f) (haS l) m S = R0 → hz_W κ xX12_store (f + 12) 0 0 (msQ M0 z B nn v now dl ol0 R0) 0 0 234 [(8, .int (nI i)), (7, .int (nI 1)), (4, .int (nI kk)), (0, .ref B), (1, .int (nI v)), (2, .int but)] [] z M := by
  intro t
  induction t using Nat.strongRecOn with
  | ind t ih =>
  intro i m S M ol ht hi hmi hfr hE hag hcw hmg hmn hor how hst hlo hdu hbe hI hLf hY hex hkl hkb hk
  obtain ⟨fs, hO, hF⟩ := id hfr.2.1
  have hl8 := how.1
  have hv6 : v < 6 := by omega
  have hkM : md_k B M z := hk0.mf hfr rfl rfl
  refine hz_iload (pc := 234) 0 (hz_dec kX12_store 133 rfl) rfl ?_
  refine hz_aloadn (pc := 236) 3 (hz_dec kX12_store 134 rfl) rfl ?_
  refine hz_get (pc := 237) (v := .ref (B + 67)) (hz_dec kX12_store 135 rfl) fo_X12_221 hO h8 (by omega) (hF.2 76 (by decide) (by decide)) ?_
  refine hz_iloadn (pc := 240) 4 (hz_dec kX12_store 136 rfl) rfl ?_
  refine hz_iald (pc := 241) (j := v) (hz_dec kX12_store 137 rfl) hE.a67 (by omega) (by omega) rfl (by omega) (by decide) ?_
  refine hz_eqi (pc := 242) hor.1 ?_
  refine hz_n_ge (pc := 242) (tgt := 352) (hz_dec kX12_store 138 rfl) (by decide) (by omega) (by omega) (fun h1 => ?_) (fun h1 => ?_)
  · skip
    have e : i = ol.length := by omega
    have hno9 : ∀ j, j < ol.length → ¬ (orL ol j).2 = 2 + kk := fun j hj => hbe j (by omega)
    have hnm := loO_no (ol := ol) (h := haS l) (fun j hj h2 q => hno9 j hj ((hdu j hj h2).mp q))
    have eR : R0 = (S, true) := by
      rw [← hk]
      cases m with
      | zero => rfl
      | succ m => show (if loF (ksL S) (haS l) < (ksL S).length then _ else _) = _; rw [hlo, if_neg hnm]
    exact hz_vret (pc := 352) (hz_dec kX12_store 197 rfl) rfl ⟨rfl, rfl, hfr, hE, hag, hcw, (by rw [eR]; exact hmg), (fun _ => by rw [eR]; exact ⟨hmn, ol, hY.x hno9, hlo, hor⟩), (fun q9 => by rw [eR] at q9; cases q9)⟩
  · skip
    have hs9 := (how.2 i h1).2
    refine hz_iload (pc := 245) 1 (hz_dec kX12_store 139 rfl) rfl ?_
    refine hz_z_eq (pc := 247) (tgt := 352) (hz_dec kX12_store 140 rfl) (by decide) (by omega) (fun h2 => ?_) (fun h2 => ?_)
    · skip
      exact absurd h2 (by omega)
    · skip
      refine hz_bipush (pc := 250) (v := nI 8) (hz_dec kX12_store 141 rfl) (by decide) ?_
      refine hz_iloadn (pc := 252) 4 (hz_dec kX12_store 142 rfl) rfl ?_
      refine hz_mulN (pc := 253) (hz_dec kX12_store 143 rfl) ?_
      refine hz_iload (pc := 254) 0 (hz_dec kX12_store 144 rfl) rfl ?_
      refine hz_addN (pc := 256) (hz_dec kX12_store 145 rfl) ?_
      refine hz_istore (pc := 257) (i := 9) (lo2 := [(9, .int (nI ((8 * v) + i))), (8, .int (nI i)), (7, .int (nI 1)), (4, .int (nI kk)), (0, .ref B), (1, .int (nI v)), (2, .int but)]) (hz_dec kX12_store 146 rfl) (by decide) rfl ?_
      refine hz_aloadn (pc := 259) 4 (hz_dec kX12_store 147 rfl) rfl ?_
      refine hz_get (pc := 260) (v := .ref (B + 65)) (hz_dec kX12_store 148 rfl) fo_X12_215 hO h8 (by omega) (hF.2 74 (by decide) (by decide)) ?_
      refine hz_iload (pc := 263) 0 (hz_dec kX12_store 149 rfl) rfl ?_
      refine hz_iald (pc := 265) (j := (8 * v) + i) (hz_dec kX12_store 150 rfl) hE.a65 (by omega) (by omega) rfl (by omega) (by decide) ?_
      refine hz_eqi (pc := 266) (hor.2 i h1).2.1 ?_
      refine hz_iconst (pc := 266) (v := nI 2) (hz_dec kX12_store 151 rfl) (by decide) ?_
      refine hz_iload (pc := 267) 3 (hz_dec kX12_store 152 rfl) rfl ?_
      refine hz_addN (pc := 269) (hz_dec kX12_store 153 rfl) ?_
      refine hz_n_ne (pc := 270) (tgt := 346) (hz_dec kX12_store 154 rfl) (by decide) (by omega) (by omega) (fun h3 => ?_) (fun h3 => ?_)
      · skip
        refine hz_incN (pc := 346) (i := 8) (lo2 := [(8, .int (nI (i + 1))), (9, .int (nI ((8 * v) + i))), (7, .int (nI 1)), (4, .int (nI kk)), (0, .ref B), (1, .int (nI v)), (2, .int but)]) 1 (hz_dec kX12_store 195 rfl) rfl (by decide) rfl ?_
        refine hz_goto (pc := 349) (tgt := 234) (hz_dec kX12_store 196 rfl) (by decide) ?_
        refine hz_pick (pc := 234) [0, 2, 3, 4, 5, 6] rfl ?_
        refine ih (ol.length - (i + 1)) (by omega) (i + 1) m S M ol rfl (by omega) (by omega) hfr hE hag hcw hmg hmn hor how hst hlo hdu (fun j hj => ?_) hI hLf hY hex hkl hkb hk
        rcases (show j = i ∨ j < i by omega) with e | c
        · rw [e]; exact h3
        · exact hbe j c
      · skip
        have hWb := (how.2 i h1).1
        have hlb := hWb.len
        have h2n : ¬ (orL ol i).2 = 2 := by omega
        have hmt := (hdu i h1 h2n).mpr h3
        obtain ⟨p1, p2, p3⟩ := loO_F h1 h2n hmt (fun j hj q2 q => hbe j hj ((hdu j (by omega) q2).mp q))
        rw [← hlo] at p1 p2 p3
        obtain ⟨m, rfl⟩ : ∃ m9, m = m9 + 1 := ⟨m - 1, by omega⟩
        have hpv : pvF (ksB S) (orL ol i).1 < (ksB S).length := blF_lt hkl (by rw [hkb]; exact hmt.symm)
        have hoi := hor.2 i h1
        refine hz_aloadn (pc := 273) 4 (hz_dec kX12_store 155 rfl) rfl ?_
        refine hz_get (pc := 274) (v := .ref (B + 65)) (hz_dec kX12_store 156 rfl) fo_X12_215 hO h8 (by omega) (hF.2 74 (by decide) (by decide)) ?_
        refine hz_iload (pc := 277) 0 (hz_dec kX12_store 157 rfl) rfl ?_
        refine hz_iconst (pc := 279) (v := nI 2) (hz_dec kX12_store 158 rfl) (by decide) ?_
        refine hz_iast (pc := 280) (j := (8 * v) + i) (hz_dec kX12_store 159 rfl) hE.a65 (by omega) (by omega) rfl (by omega) (by decide) ?_
        refine hz_aloadn (pc := 281) 4 (hz_dec kX12_store 160 rfl) rfl ?_
        refine hz_aloadn (pc := 282) 4 (hz_dec kX12_store 161 rfl) rfl ?_
        refine hz_get (pc := 283) (v := .ref (B + 64)) (hz_dec kX12_store 162 rfl) fo_X12_212 (hz_mne hO (by omega)) h8 (by omega) (hF.2 73 (by decide) (by decide)) ?_
        refine hz_iload (pc := 286) 0 (hz_dec kX12_store 163 rfl) rfl ?_
        refine hz_iald (pc := 288) (j := (8 * v) + i) (hz_dec kX12_store 164 rfl) (hz_mne hE.a64 (by omega)) (by omega) (by omega) rfl (by omega) (by decide) ?_
        refine hz_eqi (pc := 289) hoi.1 ?_
        refine hz_puti (pc := 289) (hz_dec kX12_store 165 rfl) fo_X12_422 ft_X12_39 (hz_mne hO (by omega)) h8 (by omega) (by rw [hF.1]; decide) ?_
        refine hz_iconst (pc := 292) (v := nI 0) (hz_dec kX12_store 166 rfl) (by decide) ?_
        refine hz_istore (pc := 293) (i := 10) (lo2 := [(10, .int (nI 0)), (9, .int (nI ((8 * v) + i))), (8, .int (nI i)), (7, .int (nI 1)), (4, .int (nI kk)), (0, .ref B), (1, .int (nI v)), (2, .int but)]) (hz_dec kX12_store 167 rfl) (by decide) rfl ?_
        refine hz_pick (pc := 295) [0, 1, 2, 3, 4, 5, 6, 7] rfl ?_
        have hm1 : mfr B [39] [65] M (va_up (va_up M (B + 65) (.inl (0, 48, .inl (upd (fA M B 65) ((8 * v) + i) ((nI (2))))))) B (.inr (12, (List.set fs 39 (.int (nI ((orL ol i).1.length))))))) := ((mfr.rf ⟨fs, hO, hF⟩).upA (o := 65) rfl (by decide)).upO (k := 39) (hz_mne hO (by omega)) hF rfl rfl
        have hE1 : mdE (va_up (va_up M (B + 65) (.inl (0, 48, .inl (upd (fA M B 65) ((8 * v) + i) ((nI (2))))))) B (.inr (12, (List.set fs 39 (.int (nI ((orL ol i).1.length))))))) B := (hE.upA (by decide)).upO
        have p65 : fA (va_up (va_up M (B + 65) (.inl (0, 48, .inl (upd (fA M B 65) ((8 * v) + i) ((nI (2))))))) B (.inr (12, (List.set fs 39 (.int (nI ((orL ol i).1.length))))))) B 65 = upd (fA M B 65) (8 * v + i) (nI 2) := fA_of (hz_mne (va_up_self _ _ _) (by omega))
        have e9 : ∀ o, ¬ o = 65 → ¬ o = 0 → fA (va_up (va_up M (B + 65) (.inl (0, 48, .inl (upd (fA M B 65) ((8 * v) + i) ((nI (2))))))) B (.inr (12, (List.set fs 39 (.int (nI ((orL ol i).1.length))))))) B o = fA M B o := fun o ho h0 => fA_c (hz_mne (hz_mne rfl (by omega)) (by omega))
        have h39 : fdB (va_up (va_up M (B + 65) (.inl (0, 48, .inl (upd (fA M B 65) ((8 * v) + i) ((nI (2))))))) B (.inr (12, (List.set fs 39 (.int (nI ((orL ol i).1.length))))))) B 39 = some (.int (nI (orL ol i).1.length)) := by rw [fdB_of (va_up_self _ _ _), List.getElem?_set_self (by rw [hF.1]; decide)]
        have hoO : oeO M (va_up (va_up M (B + 65) (.inl (0, 48, .inl (upd (fA M B 65) ((8 * v) + i) ((nI (2))))))) B (.inr (12, (List.set fs 39 (.int (nI ((orL ol i).1.length))))))) B (8 * v + i) := ⟨fun y hy => by rw [e9 64 (by decide) (by decide)], fun y hy => by rw [p65, upd_o hy], fun y hy => by rw [e9 66 (by decide) (by decide)], fun y hy => by rw [e9 63 (by decide) (by decide)]⟩
        have hor1 : orX (fA (va_up (va_up M (B + 65) (.inl (0, 48, .inl (upd (fA M B 65) ((8 * v) + i) ((nI (2))))))) B (.inr (12, (List.set fs 39 (.int (nI ((orL ol i).1.length))))))) B) v (orZ ol i) := by
          refine ⟨by rw [orZ_len, e9 67 (by decide) (by decide)]; exact hor.1, fun j hj => ?_⟩
          rw [orZ_len] at hj
          rw [orZ_at h1]
          split
          · rename_i c; rw [c]; obtain ⟨a1, a2, a3, a4⟩ := hoi; exact ⟨by rw [e9 64 (by decide) (by decide)]; exact a1, by rw [p65, upd_s], by rw [e9 66 (by decide) (by decide)]; exact a3, by rw [e9 63 (by decide) (by decide)]; exact a4⟩
          · rename_i c; exact hoO.x (by omega) (by have q := (how.2 j hj).1.len; omega) (hor.2 j hj)
        have hag1 : agV M (va_up (va_up M (B + 65) (.inl (0, 48, .inl (upd (fA M B 65) ((8 * v) + i) ((nI (2))))))) B (.inr (12, (List.set fs 39 (.int (nI ((orL ol i).1.length))))))) B v := hoO.g (by omega) hm1 rfl rfl
        have h631 : isA (fA (va_up (va_up M (B + 65) (.inl (0, 48, .inl (upd (fA M B 65) ((8 * v) + i) ((nI (2))))))) B (.inr (12, (List.set fs 39 (.int (nI ((orL ol i).1.length))))))) B 63) (4000 * (8 * v + i)) (orL ol i).1 := by rw [e9 63 (by decide) (by decide)]; exact hoi.2.2.2
        generalize hM1 : (va_up (va_up M (B + 65) (.inl (0, 48, .inl (upd (fA M B 65) ((8 * v) + i) ((nI (2))))))) B (.inr (12, (List.set fs 39 (.int (nI ((orL ol i).1.length))))))) = M1 at *
        refine c_st_b (now := now) (dl := dl) h8 hz hnn hvn (f := f) (by omega) (by omega) h631 h39 (fun M2 hm2 hE2 h352 => ?_) (orL ol i).1.length 0 M1 rfl (Nat.zero_le _) (mfr.rf hm1.2.1) hE1 (fun q hq => absurd hq (by omega))
        have hm12 : mfr B [39] [35, 65] M M2 := (hm1.mono rfl rfl).tr (hm2.mono rfl rfl)
        have hmn2 : mnS M2 B v 1 S (pvI (ksF S)) (ksP S) := hmn.mf hm12 rfl rfl
        have hmg2 := hmg.mf hm12 rfl rfl
        have hor2 := hor1.mf hm2 rfl
        have hk2 : md_k B M2 z := hkM.mf hm12 rfl rfl
        have h392 := (hm2.2.2 39 rfl).trans h39
        obtain ⟨fs2, hO2, hF2⟩ := id hm2.2.1
        obtain ⟨m16, m17, m18, m19, mnb, mpo, mcv, mpl⟩ := id hmn2
        obtain ⟨i1, i2, i3, i4, i5⟩ := id hI
        have htop := i1.top
        refine hz_aloadn (pc := 331) 4 (hz_dec kX12_store 186 rfl) rfl ?_
        refine hz_iloadn (pc := 332) 5 (hz_dec kX12_store 187 rfl) rfl ?_
        refine hz_iconst (pc := 333) (v := nI 1) (hz_dec kX12_store 188 rfl) (by decide) ?_
        have qj := c_jBod2 (κ := κ) (od := true) hk2 hE2 h352 (by omega) h392 hv6 (by omega) (by rw [enB_len]; exact Nat.le_refl _) (by rw [enB_len]; omega) mnb.1 mnb.2.1 i1.2.2.2.2.1 i1.2.2.2.2.2.1 mnb.2.2 (fun k hk => (i1.cb hk).1) (fun k hk => (i1.cb hk).2) mcv m18 (by omega)
        refine hz_callV (pc := 334) (a := B) (As := [.int (nI v), .int (nI 1)]) (st := []) (hz_dec kX12_store 189 rfl) co_X12_603 im_X12_judgeBody se_X12_judgeBody rfl hO2 h8 (by omega) (qj) rfl (by omega) ⟨Nat.le_refl _, Nat.le_refl _⟩ (Nat.le_of_ble_eq_true rfl) rfl (fun r9 z9 M3 hp9 => ?_)
        obtain ⟨rfl, rfl, hf3, hE3, hcv3, hh3, hz3⟩ := hp9
        refine hz_eqi (pc := 337) (show _ = nI (ksJ S (orL ol i).1) from rfl) ?_
        have hcvv : cvX M3 B v (ksB S) (enB (ksB S)) := hcv3 v _ _ hv6 (fun _ => ⟨rfl, rfl⟩) mcv
        have hmn3 := hmn2.mv hf3 hcvv rfl
        have hmg3 := hmg2.mf hf3 rfl rfl
        have hor3 := hor2.mf hf3 rfl
        have hk3 : md_k B M3 z := hk2.mf hf3 rfl rfl
        obtain ⟨fs3, hO3, hF3⟩ := id hf3.2.1
        have hfr3 : mfr B [16, 39, 53, 54, 55, 59, 61, 86, 87, 88] [3, 4, 5, 6, 7, 8, 9, 10, 11, 12, 13, 14, 15, 16, 17, 18, 19, 20, 21, 24, 25, 26, 27, 28, 29, 30, 31, 32, 33, 35, 36, 42, 43, 44, 45, 46, 47, 48, 49, 50, 51, 52, 53, 54, 55, 56, 57, 58, 59, 60, 61, 62, 63, 64, 65, 66, 67, 68, 70, 71, 72, 73, 74, 75, 76] M0 M3 := (hfr.tr (hm12.mono rfl rfl)).tr (hf3.mono rfl rfl)
        have hag3 : agV M0 M3 B v := ((hag.tr hag1).tr (agV.mf hm2 rfl rfl)).tr (agV.mf hf3 rfl rfl)
        have hcw3 : cvW M0 M3 B v := (hcw.tr (cvK.mf (bl := ksB S) (en := enB (ksB S)) hm12 rfl rfl rfl rfl).w).tr hcv3.w
        have hE9 := ksE_X hI p1
        have hlo9 : ksL (ksE S (loF (ksL S) (haS l))) = loO (orZ ol i) := p3
        have hv9 : ksJ S (orL ol i).1 < 100 := by unfold ksJ jBk; have q9 := jPa_lt (orL ol i).1 (eH (enB (ksB S)) (pvF (ksB S) (orL ol i).1) + 1) (coAt (ksB S) (enB (ksB S)) (pvF (ksB S) (orL ol i).1)); repeat (first | omega | split)
        have hY3 : olY kk ol0 (orZ ol i) := hY.z h1 h3 (fun q => by rcases hst0 i (by rw [← hY.1]; exact h1) with s | s | ⟨q9, s0, s1, s2, s3⟩ <;> omega)
        have hbz : ∀ j, j < i + 1 → ¬ (orL (orZ ol i) j).2 = 2 + kk := by
          intro j hj q
          rw [orZ_at h1] at q
          split at q
          · have q2 : 2 = 2 + kk := q; omega
          · rename_i c; exact hbe j (by omega) q
        have ekk : kpL (kp nn dl now v but f) (haS l) (m + 1) S = if ksJ S (orL ol i).1 = 0 then (if (kp nn dl now v but f (ksE S (loF (ksL S) (haS l))) (orL ol i).1).2 = true then kpL (kp nn dl now v but f) (haS l) m (kp nn dl now v but f (ksE S (loF (ksL S) (haS l))) (orL ol i).1).1 else ((kp nn dl now v but f (ksE S (loF (ksL S) (haS l))) (orL ol i).1).1, false)) else kpL (kp nn dl now v but f) (haS l) m (ksE S (loF (ksL S) (haS l))) := by
          show (if loF (ksL S) (haS l) < (ksL S).length then _ else _) = _
          rw [if_pos p1, p2]
        generalize hSE : ksE S (loF (ksL S) (haS l)) = SE at *
        have eSB : ksB SE = ksB S := by rw [← hSE]; rfl
        have eSJ : ∀ b9, ksJ SE b9 = ksJ S b9 := fun b9 => by rw [← hSE]; rfl
        have hmgE : mgR M3 B nn now dl (ksQ SE) := by rw [← hSE]; exact hmg3
        have hmnE : mnS M3 B v 1 SE (pvI (ksF SE)) (ksP SE) := by rw [← hSE]; exact hmn3
        refine hz_z_ne (pc := 337) (tgt := 346) (hz_dec kX12_store 190 rfl) (by decide) (by omega) (fun h5 => ?_) (fun h5 => ?_)
        · skip
          refine hz_incN (pc := 346) (i := 8) (lo2 := [(8, .int (nI (i + 1))), (9, .int (nI (8 * v + i))), (7, .int (nI 1)), (4, .int (nI kk)), (0, .ref B), (1, .int (nI v)), (2, .int but)]) 1 (hz_dec kX12_store 195 rfl) rfl (by decide) rfl ?_
          refine hz_goto (pc := 349) (tgt := 234) (hz_dec kX12_store 196 rfl) (by decide) ?_
          refine hz_pick (pc := 234) [0, 2, 3, 4, 5, 6] rfl ?_
          refine ih (ol.length - (i + 1)) (by omega) (i + 1) m SE M3 (orZ ol i) (by rw [orZ_len]) (by rw [orZ_len]; omega) (by rw [orZ_len]; omega) hfr3 hE3 hag3 hcw3 hmgE hmnE hor3 (orZ_w how h1) (by rw [eSB]; exact hst.z h1) hlo9 (hdu.z h1) hbz hE9.1.2.2 (by have q := hE9.2; omega) hY3 (by rw [eSB]; exact hex) (by rw [eSB]; exact hkl) (by rw [eSB]; exact hkb) (by rw [← hk, ekk, if_neg (by omega)])
        · skip
          have hj0 : ksJ S (orL ol i).1 = 0 := by omega
          have hh4 := hh3 (by have q : jBk (ksB S) (enB (ksB S)) (orL ol i).1 (nrB (ksN S) (orL ol i).1.length true) = 0 := hj0; omega)
          have h614 := hz3 hj0
          have h354 : isA (fA M3 B 35) 0 (orL ol i).1 := by rw [fA_m hf3 (by decide) rfl]; exact h352
          have h394 := (hf3.2.2 39 rfl).trans h392
          refine hz_aloadn (pc := 340) 4 (hz_dec kX12_store 191 rfl) rfl ?_
          refine hz_iloadn (pc := 341) 5 (hz_dec kX12_store 192 rfl) rfl ?_
          refine hz_iloadn (pc := 342) 6 (hz_dec kX12_store 193 rfl) rfl ?_
          have hq := IH SE (orL ol i).1 M3 (orZ ol i) hk3 hE3 hmgE hmnE hor3 (orZ_w how h1) (by rw [eSB]; exact hst.z h1) hlo9 ⟨h354, h394, hh4, by rw [eSB]; exact h614⟩ hE9.1.2.2 (by rw [eSJ]; exact hj0) (by have q := hE9.2; omega)
          have hX4 : ksX SE (kp nn dl now v but f SE (orL ol i).1).1 := kp_X f SE (orL ol i).1 hE9.1.2.2 (by rw [eSJ]; exact hj0)
          refine hz_callV (pc := 343) (a := B) (As := [.int (nI v), .int but]) (st := []) (hz_dec kX12_store 194 rfl) co_X12_607 im_X12_store se_X12_store rfl hO3 h8 (by omega) (hq) rfl (by omega) ⟨Nat.le_refl _, Nat.le_refl _⟩ (Nat.le_of_ble_eq_true rfl) rfl (fun r9 z9 M4 hp9 => ?_)
          obtain ⟨rfl, rfl, hf4, hE4, hag4, hcw4, hmg4, hok4, hno4⟩ := hp9
          rw [if_pos hj0] at ekk
          have hfr4 : mfr B [16, 39, 53, 54, 55, 59, 61, 86, 87, 88] [3, 4, 5, 6, 7, 8, 9, 10, 11, 12, 13, 14, 15, 16, 17, 18, 19, 20, 21, 24, 25, 26, 27, 28, 29, 30, 31, 32, 33, 35, 36, 42, 43, 44, 45, 46, 47, 48, 49, 50, 51, 52, 53, 54, 55, 56, 57, 58, 59, 60, 61, 62, 63, 64, 65, 66, 67, 68, 70, 71, 72, 73, 74, 75, 76] M0 M4 := hfr3.tr hf4
          cases e4 : (kp nn dl now v but f SE (orL ol i).1).2 with
          | true =>
            obtain ⟨hmn4, ol4, hx4, hlo4, hor4⟩ := hok4 e4
            refine hz_incN (pc := 346) (i := 8) (lo2 := [(8, .int (nI (i + 1))), (9, .int (nI (8 * v + i))), (7, .int (nI 1)), (4, .int (nI kk)), (0, .ref B), (1, .int (nI v)), (2, .int but)]) 1 (hz_dec kX12_store 195 rfl) rfl (by decide) rfl ?_
            refine hz_goto (pc := 349) (tgt := 234) (hz_dec kX12_store 196 rfl) (by decide) ?_
            refine hz_pick (pc := 234) [0, 2, 3, 4, 5, 6] rfl ?_
            obtain ⟨e9, he9⟩ := hX4.1
            rw [eSB] at he9
            have hlen4 : ol4.length = ol.length := hx4.1.trans (orZ_len ol i)
            refine ih (ol4.length - (i + 1)) (by omega) (i + 1) m (kp nn dl now v but f SE (orL ol i).1).1 M4 ol4 rfl (by omega) (by omega) hfr4 hE4 (hag3.tr hag4) (hcw3.tr hcw4) hmg4 hmn4 hor4 (hx4.w (orZ_w how h1)) ?_ hlo4 ((hdu.z h1).ol hk1 hx4) (fun j hj q => ?_) hX4.2.2 (by have q1 := hX4.2.1; have q2 := hE9.2; omega) (hY3.tr hk1 hx4) ?_ ?_ ?_ (by rw [← hk, ekk, if_pos e4])
            · rw [he9]; exact ((hst.z h1).ol hx4).ext
            · obtain ⟨x1, x2⟩ := hx4.2 j (by rw [orZ_len]; omega); rcases x2 with e | ⟨e, e2⟩; exact hbz j hj (e.symm.trans q); omega
            · obtain ⟨e8, he8⟩ := hex; exact ⟨e8 ++ e9, by rw [he9, he8, List.append_assoc]⟩
            · rw [he9, List.length_append]; omega
            · rw [he9]; unfold bBy bkL; rw [List.getD_eq_getElem?_getD, List.getElem?_append_left hkl, ← List.getD_eq_getElem?_getD]; exact hkb
          | false =>
            obtain ⟨hmn4, hor4⟩ := hno4 e4
            obtain ⟨fs4, hO4, hF4⟩ := id hf4.2.1
            have eR : R0 = ((kp nn dl now v but f SE (orL ol i).1).1, false) := by rw [← hk, ekk, if_neg (by rw [e4]; decide)]
            have h674 : fA M4 B 67 v = nI 0 := hor4.1
            refine hz_incN (pc := 346) (i := 8) (lo2 := [(8, .int (nI (i + 1))), (9, .int (nI (8 * v + i))), (7, .int (nI 1)), (4, .int (nI kk)), (0, .ref B), (1, .int (nI v)), (2, .int but)]) 1 (hz_dec kX12_store 195 rfl) rfl (by decide) rfl ?_
            refine hz_goto (pc := 349) (tgt := 234) (hz_dec kX12_store 196 rfl) (by decide) ?_
            refine hz_iload (pc := 234) 0 (hz_dec kX12_store 133 rfl) rfl ?_
            refine hz_aloadn (pc := 236) 4 (hz_dec kX12_store 134 rfl) rfl ?_
            refine hz_get (pc := 237) (v := .ref (B + 67)) (hz_dec kX12_store 135 rfl) fo_X12_221 hO4 h8 (by omega) (hF4.2 76 (by decide) (by decide)) ?_
            refine hz_iloadn (pc := 240) 5 (hz_dec kX12_store 136 rfl) rfl ?_
            refine hz_iald (pc := 241) (j := v) (hz_dec kX12_store 137 rfl) hE4.a67 (by omega) (by omega) rfl (by omega) (by decide) ?_
            refine hz_eqi (pc := 242) h674 ?_
            refine hz_n_ge (pc := 242) (tgt := 352) (hz_dec kX12_store 138 rfl) (by decide) (by omega) (by omega) (fun h6 => ?_) (fun h6 => ?_)
            · skip
              exact hz_vret (pc := 352) (hz_dec kX12_store 197 rfl) rfl ⟨rfl, rfl, hfr4, hE4, hag3.tr hag4, hcw3.tr hcw4, (by rw [eR]; exact hmg4), (fun q9 => by rw [eR] at q9; cases q9), (fun _ => by rw [eR]; exact ⟨hmn4, hor4⟩)⟩
            · skip
              exact absurd h6 (by omega)
