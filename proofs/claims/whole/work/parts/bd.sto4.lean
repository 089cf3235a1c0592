/-! the reference: store, its end -/
set_option maxHeartbeats 4000000 in
set_option maxRecDepth 100000 in
theorem c_st_m {κ : hz_C} {z B nn v : Nat} {but : Int32} (h8 : 8 ≤ B) (hz : B + 88 ≤ z) (hnn : nn ≤ 6) (hvn : v < nn) {f kk : Nat} (hk1 : 1 ≤ kk) (hk9 : kk < 128) {h : by_L} (hh : h.length = 32) {ol : List or_O} (how : orW ol) {M0 : hz_M} (hor0 : orX (fA M0 B) v ol) (h300 : isA (fA M0 B 30) (32 * (128 * v + kk)) h) {P : hz_P} (K : ∀ M mo, mfr B [] [65] M0 M → mdE M B → agV M0 M B v → orX (fA M B) v (orM kk h ol) → mo < 2 → (mo = 0 → ∀ j, j < ol.length → ¬ ((orL ol j).2 = 1 ∧ subL (orL ol j).1 0 32 = h)) → hz_W κ xX12_store (f + 12) 0 0 P 0 0 231 [(7, .int (nI mo)), (4, .int (nI kk)), (0, .ref B), (1, .int (nI v)), (2, .int but)] [] z M) : ∀ t i mo M, t = ol.length - i → i ≤ ol.length → mfr B [] [65] M0 M → mdE M B → agV M0 M B v → (∀ j, j < i → fA M B 65 (8 * v + j) = nI (orM1 kk h (orL ol j)).2) → (∀ x, x < 8 * v ∨ 8 * v + i ≤ x → fA M B 65 x = fA M0 B 65 x) → mo < 2 → (mo = 0 → ∀ j, j < i → ¬ ((orL ol j).2 = 1 ∧ subL (orL ol j).1 0 32 = h)) → hz_W κ xX12_store (f + 12) 0 0 P 0 0 149 [(8, .int (nI i)), (7, .int (nI mo)), (4, .int (nI kk)), (0, .ref B), (1, .int (nI v)), (2, .int but)] [] z M := by
  intro t
  induction t using Nat.strongRecOn with
  | ind t ih =>
  intro i mo M ht hi hfr hE hag hlo hhi hmo hmz
  obtain ⟨fs, hO, hF⟩ := id hfr.2.1
  have hl8 := how.1
  have h67 : fA M B 67 v = nI ol.length := by rw [fA_m hfr (by decide) rfl]; exact hor0.1
  refine hz_iload (pc := 149) 0 (hz_dec kX12_store 87 rfl) rfl ?_
  refine hz_aloadn (pc := 151) 3 (hz_dec kX12_store 88 rfl) rfl ?_
  refine hz_get (pc := 152) (v := .ref (B + 67)) (hz_dec kX12_store 89 rfl) fo_X12_221 hO h8 (by omega) (hF.2 76 (by decide) (by decide)) ?_
  refine hz_iloadn (pc := 155) 4 (hz_dec kX12_store 90 rfl) rfl ?_
  refine hz_iald (pc := 156) (j := v) (hz_dec kX12_store 91 rfl) hE.a67 (by omega) (by omega) rfl (by omega) (by decide) ?_
  refine hz_eqi (pc := 157) h67 ?_
  refine hz_n_ge (pc := 157) (tgt := 231) (hz_dec kX12_store 92 rfl) (by decide) (by omega) (by omega) (fun h1 => ?_) (fun h1 => ?_)
  · skip
    have e : i = ol.length := by omega
    refine hz_pick (pc := 231) [1, 2, 3, 4, 5] rfl ?_
    refine K M mo hfr hE hag ⟨by rw [orM_len]; exact h67, fun j hj => ?_⟩ hmo (fun q j hj => hmz q j (by omega))
    rw [orM_len] at hj
    obtain ⟨a1, a2, a3, a4⟩ := hor0.2 j hj
    rw [orM_at hj]
    unfold oeX
    rw [orM1_b, fA_m (o := 64) hfr (by decide) rfl, fA_m (o := 66) hfr (by decide) rfl, fA_m (o := 63) hfr (by decide) rfl]
    exact ⟨a1, hlo j (by omega), a3, a4⟩
  · skip
    have hoi := hor0.2 i h1
    have hs9 := (how.2 i h1).2
    have hbl := (how.2 i h1).1.len
    have h65i : fA M B 65 (8 * v + i) = nI (orL ol i).2 := by rw [hhi _ (by omega)]; exact hoi.2.1
    refine hz_bipush (pc := 160) (v := nI 8) (hz_dec kX12_store 93 rfl) (by decide) ?_
    refine hz_iloadn (pc := 162) 4 (hz_dec kX12_store 94 rfl) rfl ?_
    refine hz_mulN (pc := 163) (hz_dec kX12_store 95 rfl) ?_
    refine hz_iload (pc := 164) 0 (hz_dec kX12_store 96 rfl) rfl ?_
    refine hz_addN (pc := 166) (hz_dec kX12_store 97 rfl) ?_
    refine hz_istore (pc := 167) (i := 9) (lo2 := [(9, .int (nI ((8 * v) + i))), (8, .int (nI i)), (7, .int (nI mo)), (4, .int (nI kk)), (0, .ref B), (1, .int (nI v)), (2, .int but)]) (hz_dec kX12_store 98 rfl) (by decide) rfl ?_
    refine hz_aloadn (pc := 169) 4 (hz_dec kX12_store 99 rfl) rfl ?_
    refine hz_get (pc := 170) (v := .ref (B + 65)) (hz_dec kX12_store 100 rfl) fo_X12_215 hO h8 (by omega) (hF.2 74 (by decide) (by decide)) ?_
    refine hz_iload (pc := 173) 0 (hz_dec kX12_store 101 rfl) rfl ?_
    refine hz_iald (pc := 175) (j := (8 * v) + i) (hz_dec kX12_store 102 rfl) hE.a65 (by omega) (by omega) rfl (by omega) (by decide) ?_
    refine hz_eqi (pc := 176) h65i ?_
    refine hz_iconst (pc := 176) (v := nI 1) (hz_dec kX12_store 103 rfl) (by decide) ?_
    refine hz_n_ne (pc := 177) (tgt := 225) (hz_dec kX12_store 104 rfl) (by decide) (by omega) (by omega) (fun h2 => ?_) (fun h2 => ?_)
    · skip
      refine hz_incN (pc := 225) (i := 8) (lo2 := [(8, .int (nI (i + 1))), (9, .int (nI ((8 * v) + i))), (7, .int (nI mo)), (4, .int (nI kk)), (0, .ref B), (1, .int (nI v)), (2, .int but)]) 1 (hz_dec kX12_store 129 rfl) rfl (by decide) rfl ?_
      refine hz_goto (pc := 228) (tgt := 149) (hz_dec kX12_store 130 rfl) (by decide) ?_
      refine hz_pick (pc := 149) [0, 2, 3, 4, 5, 6] rfl ?_
      have hnm : ¬ ((orL ol i).2 = 1 ∧ subL (orL ol i).1 0 32 = h) := fun q => h2 q.1
      refine ih (ol.length - (i + 1)) (by omega) (i + 1) mo M rfl (by omega) hfr hE hag (fun j hj => ?_) (fun x hx => hhi x (by omega)) hmo (fun q j hj => ?_)
      · rcases (show j = i ∨ j < i by omega) with e | c
        · rw [e, h65i]; unfold orM1; rw [if_neg hnm]
        · exact hlo j c
      · rcases (show j = i ∨ j < i by omega) with e | c
        · rw [e]; exact hnm
        · exact hmz q j c
    · skip
      have hA63 : isA (fA M B 63) (4000 * (8 * v + i)) (orL ol i).1 := by rw [fA_m hfr (by decide) rfl]; exact hoi.2.2.2
      have hA630 := isA_sub (i := 0) (n := 32) hA63 (by omega)
      rw [Nat.add_zero] at hA630
      have hA30 : isA (fA M B 30) (32 * (128 * v + kk)) h := by rw [fA_m hfr (by decide) rfl]; exact h300
      refine hz_aloadn (pc := 180) 4 (hz_dec kX12_store 105 rfl) rfl ?_
      refine hz_get (pc := 181) (v := .ref (B + 63)) (hz_dec kX12_store 106 rfl) fo_X12_209 hO h8 (by omega) (hF.2 72 (by decide) (by decide)) ?_
      refine hz_sipush (pc := 184) (v := nI 4000) (hz_dec kX12_store 107 rfl) (by decide) ?_
      refine hz_iload (pc := 187) 0 (hz_dec kX12_store 108 rfl) rfl ?_
      refine hz_mulN (pc := 189) (hz_dec kX12_store 109 rfl) ?_
      refine hz_aloadn (pc := 190) 4 (hz_dec kX12_store 110 rfl) rfl ?_
      refine hz_get (pc := 191) (v := .ref (B + 30)) (hz_dec kX12_store 111 rfl) fo_X12_101 hO h8 (by omega) (hF.2 32 (by decide) (by decide)) ?_
      refine hz_bipush (pc := 194) (v := nI 32) (hz_dec kX12_store 112 rfl) (by decide) ?_
      refine hz_iloadn (pc := 196) 5 (hz_dec kX12_store 113 rfl) rfl ?_
      refine hz_iload (pc := 197) 3 (hz_dec kX12_store 114 rfl) rfl ?_
      refine hz_xS (pc := 199) (As := [.int (nI v), .int (nI kk)]) (st := [.int (nI 32), .ref (B + 30), .int (nI (4000 * ((8 * v) + i))), .ref (B + 63)]) (hz_dec kX12_store 115 rfl) co_X12_419 sc_X12_at0 (c_at0) rfl (by omega) ⟨Nat.le_refl _, Nat.le_refl _⟩ (Nat.le_of_ble_eq_true rfl) rfl ?_
      refine hz_mulN (pc := 202) (hz_dec kX12_store 116 rfl) ?_
      refine hz_bipush (pc := 203) (v := nI 32) (hz_dec kX12_store 117 rfl) (by decide) ?_
      refine hz_xS (pc := 205) (As := [.ref (B + 63), .int (nI (4000 * ((8 * v) + i))), .ref (B + 30), .int (nI (32 * (128 * v + kk))), .int (nI 32)]) (st := []) (hz_dec kX12_store 118 rfl) co_X12_456 sc_X12_sameBytes (c_sameB hE.a63 (by omega) (by omega) (by decide) hE.a30 (by omega) (by omega) (by decide) (by omega) (by omega)) rfl (by omega) ⟨Nat.le_refl _, Nat.le_refl _⟩ (Nat.le_of_ble_eq_true rfl) rfl ?_
      refine hz_eqi (pc := 208) (show _ = hz_b (smS (subL (orL ol i).1 0 32) h) by rw [smS_of hA630 hA30 (subL_len _ _ _) hh]) ?_
      refine hz_if_eq (pc := 208) (tgt := 225) (hz_dec kX12_store 119 rfl) (by decide) (fun h3 => ?_) (fun h3 => ?_)
      · skip
        refine hz_incN (pc := 225) (i := 8) (lo2 := [(8, .int (nI (i + 1))), (9, .int (nI ((8 * v) + i))), (7, .int (nI mo)), (4, .int (nI kk)), (0, .ref B), (1, .int (nI v)), (2, .int but)]) 1 (hz_dec kX12_store 129 rfl) rfl (by decide) rfl ?_
        refine hz_goto (pc := 228) (tgt := 149) (hz_dec kX12_store 130 rfl) (by decide) ?_
        refine hz_pick (pc := 149) [0, 2, 3, 4, 5, 6] rfl ?_
        have hnm : ¬ ((orL ol i).2 = 1 ∧ subL (orL ol i).1 0 32 = h) := fun q => of_decide_eq_false (hz_b0 h3) q.2
        refine ih (ol.length - (i + 1)) (by omega) (i + 1) mo M rfl (by omega) hfr hE hag (fun j hj => ?_) (fun x hx => hhi x (by omega)) hmo (fun q j hj => ?_)
        · rcases (show j = i ∨ j < i by omega) with e | c
          · rw [e, h65i]; unfold orM1; rw [if_neg hnm]
          · exact hlo j c
        · rcases (show j = i ∨ j < i by omega) with e | c
          · rw [e]; exact hnm
          · exact hmz q j c
      · skip
        have hm9 : (orL ol i).2 = 1 ∧ subL (orL ol i).1 0 32 = h := ⟨h2, of_decide_eq_true (hz_b1 h3)⟩
        refine hz_aloadn (pc := 211) 4 (hz_dec kX12_store 120 rfl) rfl ?_
        refine hz_get (pc := 212) (v := .ref (B + 65)) (hz_dec kX12_store 121 rfl) fo_X12_215 hO h8 (by omega) (hF.2 74 (by decide) (by decide)) ?_
        refine hz_iload (pc := 215) 0 (hz_dec kX12_store 122 rfl) rfl ?_
        refine hz_iconst (pc := 217) (v := nI 2) (hz_dec kX12_store 123 rfl) (by decide) ?_
        refine hz_iload (pc := 218) 3 (hz_dec kX12_store 124 rfl) rfl ?_
        refine hz_addN (pc := 220) (hz_dec kX12_store 125 rfl) ?_
        refine hz_iast (pc := 221) (j := (8 * v) + i) (hz_dec kX12_store 126 rfl) hE.a65 (by omega) (by omega) rfl (by omega) (by decide) ?_
        refine hz_iconst (pc := 222) (v := nI 1) (hz_dec kX12_store 127 rfl) (by decide) ?_
        refine hz_istore (pc := 223) (i := 7) (lo2 := [(7, .int (nI 1)), (9, .int (nI ((8 * v) + i))), (8, .int (nI i)), (4, .int (nI kk)), (0, .ref B), (1, .int (nI v)), (2, .int but)]) (hz_dec kX12_store 128 rfl) (by decide) rfl ?_
        refine hz_incN (pc := 225) (i := 8) (lo2 := [(8, .int (nI (i + 1))), (7, .int (nI 1)), (9, .int (nI ((8 * v) + i))), (4, .int (nI kk)), (0, .ref B), (1, .int (nI v)), (2, .int but)]) 2 (hz_dec kX12_store 129 rfl) rfl (by decide) rfl ?_
        refine hz_goto (pc := 228) (tgt := 149) (hz_dec kX12_store 130 rfl) (by decide) ?_
        refine hz_pick (pc := 149) [0, 1, 3, 4, 5, 6] rfl ?_
        refine ih (ol.length - (i + 1)) (by omega) (i + 1) 1 _ rfl (by omega) (hfr.upA (o := 65) rfl (by decide)) (hE.upA (by decide)) (hag.upA (s := 8) (by decide) (by decide) (fun x hx => upd_o (by omega))) (fun j hj => ?_) (fun x hx => ?_) (by decide) (fun q => absurd q (by decide))
        · rw [fA_of (va_up_self _ _ _)]
          rcases (show j = i ∨ j < i by omega) with e | c
          · rw [e, upd_s]; unfold orM1; rw [if_pos hm9]
          · rw [upd_o (by omega)]; exact hlo j c
        · rw [fA_of (va_up_self _ _ _), upd_o (by omega)]; exact hhi x (by omega)
set_option maxHeartbeats 4000000 in
set_option maxRecDepth 100000 in
theorem c_st_4 {κ : hz_C} {z B nn v : Nat} {now but : Int32} {dl : Nat → Nat} (h8 : 8 ≤ B) (hz : B + 88 ≤ z) (hnn : nn ≤ 6) (hvn : v < nn) {f : Nat} (IH : msC κ z B nn v now but dl f) {M0 : hz_M} (hk0 : md_k B M0 z) {S : ks_S} {l : by_L} {ol : List or_O} (how : orW ol) (hst : stX ol (ksB S)) (hlo : ksL S = loO ol) (hI : ksI S) (hj0 : ksJ S l = 0) (hLf : (ksL S).length ≤ f) {M : hz_M} (hfr : mfr B [16, 39, 53, 54, 55, 59, 61, 86, 87, 88] [3, 4, 5, 6, 7, 8, 9, 10, 11, 12, 13, 14, 15, 16, 17, 18, 19, 20, 21, 24, 25, 26, 27, 28, 29, 30, 31, 32, 33, 35, 36, 42, 43, 44, 45, 46, 47, 48, 49, 50, 51, 52, 53, 54, 55, 56, 57, 58, 59, 60, 61, 62, 63, 64, 65, 66, 67, 68, 70, 71, 72, 73, 74, 75, 76] M0 M) (hE : mdE M B) (hag : agV M0 M B v) (hcw : cvW M0 M B v) (hmg : mgR M B nn now dl (ksQ S)) (hmn : mnS M B v 1 (kp1 nn dl now v but S l) (pvI (fzN (ksF S) (l.length + 6))) (kpP S l)) (hor : orX (fA M B) v ol) : hz_W κ xX12_store (f + 12) 0 0 (msQ M0 z B nn v now dl ol (kpL (kp nn dl now v but f) (haS l) 8 (kp1 nn dl now v but S l))) 0 0 135 [(4, .int (nI ((ksB S).length))), (0, .ref B), (1, .int (nI v)), (2, .int but)] [] z M := by
  have hX1 := kp1_X (nn := nn) (dl := dl) (now := now) (v := v) (fr := but) hI hj0
  obtain ⟨k1, k2, k3, k4, k5⟩ := id hX1.2.2
  have htop : (kpB S l).length ≤ 113 := k1.top.2.1
  have hlb : (kpB S l).length = (ksB S).length + 1 := bl_len1 _ _
  have hbl : bBy (kpB S l) (ksB S).length = l := bBy_last
  have hb1 := hI.1.1
  have hv6 : v < 6 := by omega
  obtain ⟨fs, hO, hF⟩ := id hfr.2.1
  obtain ⟨m16, m17, m18, m19, mnb, mpo, mcv, mpl⟩ := id hmn
  obtain ⟨j1, j2, j3, j4, j5, j6⟩ := jBk_0 hj0
  refine hz_aloadn (pc := 135) 1 (hz_dec kX12_store 78 rfl) rfl ?_
  refine hz_iloadn (pc := 136) 2 (hz_dec kX12_store 79 rfl) rfl ?_
  refine hz_iload (pc := 137) 0 (hz_dec kX12_store 80 rfl) rfl ?_
  refine hz_iloadn (pc := 139) 3 (hz_dec kX12_store 81 rfl) rfl ?_
  have qt := c_tAll (κ := κ) (but := but) hfr.2.1 hE h8 hz hnn hmg.1 hmg.2.1 hvn (by omega : (kpB S l).length ≤ 128) mnb.2.1 (x := (ksB S).length) (show (ksB S).length < (kpB S l).length by omega) hmg.2.2
  have ebl : bBy (ksB (kp1 nn dl now v but S l)) (ksB S).length = l := hbl
  rw [hbl] at qt
  refine hz_callV (pc := 140) (a := B) (As := [.int (nI v), .int (nI ((ksB S).length)), .int but]) (st := []) (hz_dec kX12_store 82 rfl) co_X12_600 im_X12_tellAll se_X12_tellAll rfl hO h8 (by omega) (qt) rfl (by omega) ⟨Nat.le_refl _, Nat.le_refl _⟩ (Nat.le_of_ble_eq_true rfl) rfl (fun r9 z9 M1 hp9 => ?_)
  obtain ⟨rfl, rfl, hf1, hE1, hQ1⟩ := hp9
  have hmg1 : mgR M1 B nn now dl (ksQ (kp1 nn dl now v but S l)) := ⟨(hf1.2.2 1 rfl).trans hmg.1, by unfold mdD; rw [fA_m hf1 (by decide) rfl]; exact hmg.2.1, hQ1⟩
  have hmn1 := hmn.mf hf1 rfl rfl
  have hor1 := hor.mf hf1 rfl
  obtain ⟨fs1, hO1, hF1⟩ := id hf1.2.1
  have hfr1 : mfr B [16, 39, 53, 54, 55, 59, 61, 86, 87, 88] [3, 4, 5, 6, 7, 8, 9, 10, 11, 12, 13, 14, 15, 16, 17, 18, 19, 20, 21, 24, 25, 26, 27, 28, 29, 30, 31, 32, 33, 35, 36, 42, 43, 44, 45, 46, 47, 48, 49, 50, 51, 52, 53, 54, 55, 56, 57, 58, 59, 60, 61, 62, 63, 64, 65, 66, 67, 68, 70, 71, 72, 73, 74, 75, 76] M0 M1 := hfr.tr (hf1.mono rfl rfl)
  have hag1 := hag.tr (agV.mf hf1 rfl rfl)
  have hcw1 : cvW M0 M1 B v := hcw.tr (cvK.mf (bl := ksB S) (en := enB (ksB S)) hf1 rfl rfl rfl rfl).w
  have h301 : isA (fA M1 B 30) (32 * (128 * v + (ksB S).length)) (haS l) := by have q := (hmn1.2.2.2.2.1.2.1.2.2 (ksB S).length (show (ksB S).length < (kpB S l).length by omega)).2.1; rw [ebl] at q; exact q
  refine hz_iconst (pc := 143) (v := nI 0) (hz_dec kX12_store 83 rfl) (by decide) ?_
  refine hz_istore (pc := 144) (i := 7) (lo2 := [(7, .int (nI 0)), (4, .int (nI ((ksB S).length))), (0, .ref B), (1, .int (nI v)), (2, .int but)]) (hz_dec kX12_store 84 rfl) (by decide) rfl ?_
  refine hz_iconst (pc := 146) (v := nI 0) (hz_dec kX12_store 85 rfl) (by decide) ?_
  refine hz_istore (pc := 147) (i := 8) (lo2 := [(8, .int (nI 0)), (7, .int (nI 0)), (4, .int (nI ((ksB S).length))), (0, .ref B), (1, .int (nI v)), (2, .int but)]) (hz_dec kX12_store 86 rfl) (by decide) rfl ?_
  refine hz_pick (pc := 149) [0, 1, 2, 3, 4, 5] rfl ?_
  refine c_st_m h8 hz hnn hvn (f := f) (by omega) (by omega) (haS_len l) how hor1 h301 (fun M2 mo hf2 hE2 hag2 hor2 hmo hmz => ?_) ol.length 0 0 M1 rfl (Nat.zero_le _) (mfr.rf hf1.2.1) hE1 agV.rf (fun j hj => absurd hj (by omega)) (fun x _ => rfl) (by decide) (fun _ j hj => absurd hj (by omega))
  have hmg2 := hmg1.mf hf2 rfl rfl
  have hmn2 := hmn1.mf hf2 rfl rfl
  obtain ⟨fs2, hO2, hF2⟩ := id hf2.2.1
  have hfr2 : mfr B [16, 39, 53, 54, 55, 59, 61, 86, 87, 88] [3, 4, 5, 6, 7, 8, 9, 10, 11, 12, 13, 14, 15, 16, 17, 18, 19, 20, 21, 24, 25, 26, 27, 28, 29, 30, 31, 32, 33, 35, 36, 42, 43, 44, 45, 46, 47, 48, 49, 50, 51, 52, 53, 54, 55, 56, 57, 58, 59, 60, 61, 62, 63, 64, 65, 66, 67, 68, 70, 71, 72, 73, 74, 75, 76] M0 M2 := hfr1.tr (hf2.mono rfl rfl)
  have hag2x := hag1.tr hag2
  have hcw2 : cvW M0 M2 B v := hcw1.tr (cvK.mf (bl := ksB S) (en := enB (ksB S)) hf2 rfl rfl rfl rfl).w
  have hdu : dueX (orM (ksB S).length (haS l) ol) (ksB S).length (haS l) := orM_due hst j2
  have hlo2 : ksL (kp1 nn dl now v but S l) = loO (orM (ksB S).length (haS l) ol) := by rw [loO_M (by omega)]; exact hlo
  have hlen2 := orM_len (ksB S).length (haS l) ol
  have hl8 := how.1
  have h67 := hor2.1
  rcases (show mo = 0 ∨ mo = 1 by omega) with e | e
  · skip
    subst e
    have hno2 : ∀ j, j < (orM (ksB S).length (haS l) ol).length → ¬ (orL (orM (ksB S).length (haS l) ol) j).2 = 2 + (ksB S).length := by
      intro j hj q
      rw [hlen2] at hj
      rw [orM_at hj] at q
      unfold orM1 at q
      rw [if_neg (hmz rfl j hj)] at q
      rcases hst j hj with s | s | ⟨q9, s0, s1, s2, s3⟩ <;> omega
    have hnm := loO_no (ol := (orM (ksB S).length (haS l) ol)) (h := haS l) (fun j hj h2 q => hno2 j hj ((hdu j hj h2).mp q))
    have eR : (kpL (kp nn dl now v but f) (haS l) 8 (kp1 nn dl now v but S l)) = ((kp1 nn dl now v but S l), true) := by
      show (if loF (ksL (kp1 nn dl now v but S l)) (haS l) < (ksL (kp1 nn dl now v but S l)).length then _ else _) = _
      rw [hlo2, if_neg hnm]
    refine hz_iconst (pc := 231) (v := nI 0) (hz_dec kX12_store 131 rfl) (by decide) ?_
    refine hz_istore (pc := 232) (i := 8) (lo2 := [(8, .int (nI 0)), (7, .int (nI 0)), (4, .int (nI ((ksB S).length))), (0, .ref B), (1, .int (nI v)), (2, .int but)]) (hz_dec kX12_store 132 rfl) (by decide) rfl ?_
    refine hz_iload (pc := 234) 0 (hz_dec kX12_store 133 rfl) rfl ?_
    refine hz_aloadn (pc := 236) 3 (hz_dec kX12_store 134 rfl) rfl ?_
    refine hz_get (pc := 237) (v := .ref (B + 67)) (hz_dec kX12_store 135 rfl) fo_X12_221 hO2 h8 (by omega) (hF2.2 76 (by decide) (by decide)) ?_
    refine hz_iloadn (pc := 240) 4 (hz_dec kX12_store 136 rfl) rfl ?_
    refine hz_iald (pc := 241) (j := v) (hz_dec kX12_store 137 rfl) hE2.a67 (by omega) (by omega) rfl (by omega) (by decide) ?_
    refine hz_eqi (pc := 242) h67 ?_
    refine hz_n_ge (pc := 242) (tgt := 352) (hz_dec kX12_store 138 rfl) (by decide) (by omega) (by omega) (fun h5 => ?_) (fun h5 => ?_)
    · skip
      exact hz_vret (pc := 352) (hz_dec kX12_store 197 rfl) rfl ⟨rfl, rfl, hfr2, hE2, hag2x, hcw2, (by rw [eR]; exact hmg2), (fun _ => by rw [eR]; exact ⟨hmn2, _, orM_y.x hno2, hlo2, hor2⟩), (fun q9 => by rw [eR] at q9; cases q9)⟩
    · skip
      refine hz_iload (pc := 245) 1 (hz_dec kX12_store 139 rfl) rfl ?_
      refine hz_z_eq (pc := 247) (tgt := 352) (hz_dec kX12_store 140 rfl) (by decide) (by omega) (fun h6 => ?_) (fun h6 => ?_)
      · skip
        exact hz_vret (pc := 352) (hz_dec kX12_store 197 rfl) rfl ⟨rfl, rfl, hfr2, hE2, hag2x, hcw2, (by rw [eR]; exact hmg2), (fun _ => by rw [eR]; exact ⟨hmn2, _, orM_y.x hno2, hlo2, hor2⟩), (fun q9 => by rw [eR] at q9; cases q9)⟩
      · skip
        exact absurd h6 (by omega)
  · skip
    subst e
    refine hz_iconst (pc := 231) (v := nI 0) (hz_dec kX12_store 131 rfl) (by decide) ?_
    refine hz_istore (pc := 232) (i := 8) (lo2 := [(8, .int (nI 0)), (7, .int (nI 1)), (4, .int (nI ((ksB S).length))), (0, .ref B), (1, .int (nI v)), (2, .int but)]) (hz_dec kX12_store 132 rfl) (by decide) rfl ?_
    refine hz_pick (pc := 234) [0, 1, 2, 3, 4, 5] rfl ?_
    exact c_st_l h8 hz hnn hvn IH hk0 hst rfl (by omega) (by omega) (orM (ksB S).length (haS l) ol).length 0 8 (kp1 nn dl now v but S l) M2 (orM (ksB S).length (haS l) ol) rfl (Nat.zero_le _) (by omega) hfr2 hE2 hag2x hcw2 hmg2 hmn2 hor2 (orM_w how (by omega)) (orM_st (e9 := []) hst rfl (by omega) rfl) hlo2 hdu (fun j hj => absurd hj (by omega)) hX1.2.2 (show (ksL S).length ≤ f from hLf) orM_y ⟨_, rfl⟩ (show (ksB S).length < (kpB S l).length by omega) hbl rfl
