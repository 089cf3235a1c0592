/-! the reference: store, whole -/
/-- the record is written, the block is registered, the tip and the pool are the old ones -/
def kpM (S : ks_S) (l : by_L) : ks_S := (kpB S l, ksT S, ksN S + l.length + 6, fzN (ksF S) (l.length + 6), dkW (ksD S) (ksN S) (rcS l (ksN S)) (ksF S), ksP S, ksL S, ksQ S)
theorem nbX.d2 {M M2 : hz_M} {B v tip nx L : Nat} {bl : List bk_B} {ks os : List Nat} (h : nbX (fA M B) (fL M B) v bl tip) (hp : mnP M B v bl nx) (f : mfr B ks os M M2) (ho : [20, 21, 24, 25, 30, 31, 32, 33, 34].all (fun o => !os.elem o) = true) (h51 : ∀ x, x < 12288 * v + nx ∨ 12288 * v + nx + L ≤ x → fA M2 B 51 x = fA M B 51 x) : nbX (fA M2 B) (fL M2 B) v bl tip := by
  have hoo := List.all_eq_true.mp ho
  have no : ∀ o, o ∈ [20, 21, 24, 25, 30, 31, 32, 33, 34] → os.elem o = false := fun o h9 => by have q := hoo o h9; cases e : os.elem o with
    | false => rfl
    | true => rw [e] at q; cases q
  unfold nbX
  rw [fA_m f (by decide) (no 20 (by decide)), fA_m f (by decide) (no 21 (by decide)), fA_m f (by decide) (no 24 (by decide)), fA_m f (by decide) (no 25 (by decide)), fA_m f (by decide) (no 30 (by decide)), fA_m f (by decide) (no 31 (by decide)), fA_m f (by decide) (no 32 (by decide)), fA_m f (by decide) (no 34 (by decide)), fL_c (f.at 33 (by decide) (no 33 (by decide)))]
  refine ⟨h.1, h.2.1, fun k hk => ?_⟩
  obtain ⟨a1, a2, a3, a4, a5, a6⟩ := h.2.2 k hk
  refine ⟨a1, a2, a3, a4, a5, ?_⟩
  rcases a6 with c | ⟨p, p1, p2, p3⟩
  · exact Or.inl c
  · refine Or.inr ⟨p, p1, p2, isA_c p3 (fun j hj => h51 _ ?_)⟩
    rcases hp k hk with c | ⟨q, q1, q2⟩
    · rw [p1] at c
      exact absurd c (fun c9 => by have r := congrArg Int32.toInt c9; rw [nI_toInt (by omega)] at r; have r2 : (p : Int) = (-1 : Int) := r; omega)
    · by_cases c9 : q < 2 ^ 31
      · have e : p = q := (nI_eq (by omega) c9).mp (p1.symm.trans q1)
        omega
      · omega
set_option maxHeartbeats 4000000 in
set_option maxRecDepth 100000 in
theorem c_st_3 {κ : hz_C} {z B nn v : Nat} {now but : Int32} {dl : Nat → Nat} (h8 : 8 ≤ B) (hz : B + 88 ≤ z) (hnn : nn ≤ 6) (hvn : v < nn) {f : Nat} (IH : msC κ z B nn v now but dl f) {M0 : hz_M} (hk0 : md_k B M0 z) {S : ks_S} {l : by_L} {ol : List or_O} (how : orW ol) (hst : stX ol (ksB S)) (hlo : ksL S = loO ol) (hI : ksI S) (hj0 : ksJ S l = 0) (hLf : (ksL S).length ≤ f) {M : hz_M} (hfr : mfr B [16, 39, 53, 54, 55, 59, 61, 86, 87, 88] [3, 4, 5, 6, 7, 8, 9, 10, 11, 12, 13, 14, 15, 16, 17, 18, 19, 20, 21, 24, 25, 26, 27, 28, 29, 30, 31, 32, 33, 35, 36, 42, 43, 44, 45, 46, 47, 48, 49, 50, 51, 52, 53, 54, 55, 56, 57, 58, 59, 60, 61, 62, 63, 64, 65, 66, 67, 68, 70, 71, 72, 73, 74, 75, 76] M0 M) (hE : mdE M B) (hag : agV M0 M B v) (hcw : cvW M0 M B v) (hmg : mgR M B nn now dl (ksQ S)) (hmn : mnS M B v 1 (kpM S l) (pvI (fzN (ksF S) (l.length + 6))) (ksP S)) (hor : orX (fA M B) v ol) : hz_W κ xX12_store (f + 12) 0 0 (msQ M0 z B nn v now dl ol (kpL (kp nn dl now v but f) (haS l) 8 (kp1 nn dl now v but S l))) 0 0 108 [(6, .int (nI (ksT S))), (4, .int (nI ((ksB S).length))), (0, .ref B), (1, .int (nI v)), (2, .int but)] [] z M := by
  have hX1 := kp1_X (nn := nn) (dl := dl) (now := now) (v := v) (fr := but) hI hj0
  obtain ⟨k1, k2, k3, k4, k5⟩ := id hX1.2.2
  obtain ⟨i1, i2, i3, i4, i5⟩ := id hI
  have htop : (kpB S l).length ≤ 113 := k1.top.2.1
  have hlb : (kpB S l).length = (ksB S).length + 1 := bl_len1 _ _
  have hv6 : v < 6 := by omega
  obtain ⟨fs, hO, hF⟩ := id hfr.2.1
  obtain ⟨m16, m17, m18, m19, mnb, mpo, mcv, mpl⟩ := id hmn
  have hkM : md_k B M z := hk0.mf hfr rfl rfl
  have et1 : bTo (kpB S l) (ksT S) = bTo (ksB S) (ksT S) := by unfold kpB bTo; rw [bkL_app i2]
  have et2 : bTo (kpB S l) (ksB S).length = bTo (ksB S) (pvF (ksB S) l) + wkN (bn_int (lf l) 68) := by unfold kpB bTo; rw [bkL_last]; rfl
  refine hz_aloadn (pc := 108) 2 (hz_dec kX12_store 63 rfl) rfl ?_
  refine hz_iloadn (pc := 109) 3 (hz_dec kX12_store 64 rfl) rfl ?_
  refine hz_iload (pc := 110) 1 (hz_dec kX12_store 65 rfl) rfl ?_
  refine hz_iload (pc := 112) 0 (hz_dec kX12_store 66 rfl) rfl ?_
  refine hz_xV (pc := 114) (a := B) (As := [.int (nI v), .int (nI ((ksB S).length)), .int (nI (ksT S))]) (st := []) (hz_dec kX12_store 67 rfl) co_X12_594 im_X12_isAbove se_X12_isAbove rfl hO h8 (by omega) (c_mAb hfr.2.1 hE h8 hz hv6 (by omega : (kpB S l).length ≤ 128) mnb.2.1 (x := (ksB S).length) (y := ksT S) (show (ksB S).length < (kpB S l).length by omega) (show ksT S < (kpB S l).length by omega)) rfl (by omega) ⟨Nat.le_refl _, Nat.le_refl _⟩ (Nat.le_of_ble_eq_true rfl) rfl ?_
  refine hz_if_eq (pc := 117) (tgt := 135) (hz_dec kX12_store 68 rfl) (by decide) (fun h1 => ?_) (fun h1 => ?_)
  · skip
    have eT : kpT S l = ksT S := by unfold kpT tipN; have q := of_decide_eq_false (hz_b0 h1); rw [et1, et2] at q; exact if_neg q
    have eP : kpP S l = ksP S := if_pos eT
    refine hz_pick (pc := 135) [1, 2, 3, 4] rfl ?_
    refine c_st_4 h8 hz hnn hvn IH hk0 how hst hlo hI hj0 hLf hfr hE hag hcw hmg ?_ hor
    rw [eP]
    refine ⟨m16, m17, m18, m19, ?_, mpo, mcv, mpl⟩
    show mnB M B v (kpB S l) (enB (kpB S l)) (kpT S l)
    rw [eT]
    exact mnb
  · skip
    have eT : kpT S l = (ksB S).length := by unfold kpT tipN; have q := of_decide_eq_true (hz_b1 h1); rw [et1, et2] at q; exact if_pos q
    have eP : kpP S l = pnS (kpB S l) (enB (kpB S l)) (ksB S).length (ksT S) (ksP S) := by unfold kpP; rw [eT, if_neg (by omega)]
    refine hz_aloadn (pc := 120) 2 (hz_dec kX12_store 69 rfl) rfl ?_
    refine hz_get (pc := 121) (v := .ref (B + 21)) (hz_dec kX12_store 70 rfl) fo_X12_74 hO h8 (by omega) (hF.2 23 (by decide) (by decide)) ?_
    refine hz_iloadn (pc := 124) 3 (hz_dec kX12_store 71 rfl) rfl ?_
    refine hz_iload (pc := 125) 1 (hz_dec kX12_store 72 rfl) rfl ?_
    refine hz_iast (pc := 127) (j := v) (hz_dec kX12_store 73 rfl) hE.a21 (by omega) (by omega) rfl (by omega) (by decide) ?_
    refine hz_aloadn (pc := 128) 2 (hz_dec kX12_store 74 rfl) rfl ?_
    refine hz_iloadn (pc := 129) 3 (hz_dec kX12_store 75 rfl) rfl ?_
    refine hz_iload (pc := 130) 0 (hz_dec kX12_store 76 rfl) rfl ?_
    have hm1 : mfr B [] [21] M (va_up M (B + 21) (.inl (0, 6, .inl (upd (fA M B 21) v ((nI ((ksB S).length))))))) := (mfr.rf ⟨fs, hO, hF⟩).upA (o := 21) rfl (by decide)
    have hE1 : mdE (va_up M (B + 21) (.inl (0, 6, .inl (upd (fA M B 21) v ((nI ((ksB S).length))))))) B := hE.upA (by decide)
    have hg1 : agV M (va_up M (B + 21) (.inl (0, 6, .inl (upd (fA M B 21) v ((nI ((ksB S).length))))))) B v := agV.rf.upA (s := 1) (by decide) (by decide) (fun x hx => upd_o (by omega))
    have p21 : fA (va_up M (B + 21) (.inl (0, 6, .inl (upd (fA M B 21) v ((nI ((ksB S).length))))))) B 21 v = nI (ksB S).length := by rw [fA_of (va_up_self _ _ _), upd_s]
    generalize hM1 : (va_up M (B + 21) (.inl (0, 6, .inl (upd (fA M B 21) v ((nI ((ksB S).length))))))) = M1 at *
    have mnb1 : mnB M1 B v (kpB S l) (enB (kpB S l)) (ksB S).length := by
      obtain ⟨a1, a2, a3⟩ := mnb
      refine ⟨a1.mf hm1 rfl, ?_, by rw [fA_m hm1 (by decide) rfl]; exact a3⟩
      have a2b := a2
      unfold nbX at a2b ⊢
      rw [fA_m (o := 20) hm1 (by decide) rfl, fA_m (o := 24) hm1 (by decide) rfl, fA_m (o := 25) hm1 (by decide) rfl, fA_m (o := 30) hm1 (by decide) rfl, fA_m (o := 31) hm1 (by decide) rfl, fA_m (o := 32) hm1 (by decide) rfl, fA_m (o := 34) hm1 (by decide) rfl, fA_m (o := 51) hm1 (by decide) rfl, fL_c (hm1.at 33 (by decide) rfl)]
      exact ⟨a2b.1, p21, a2b.2.2⟩
    have hcv1 : cvX M1 B v (kpB S l) (enB (kpB S l)) := cvK.mf (v := v) (bl := kpB S l) (en := enB (kpB S l)) hm1 rfl rfl rfl rfl v _ _ hv6 (fun _ => ⟨rfl, rfl⟩) mcv
    have hpo1 := mpo.mf hm1 rfl
    obtain ⟨fs1, hO1, hF1⟩ := id hm1.2.1
    refine hz_callV (pc := 132) (a := B) (As := [.int (nI v), .int (nI (ksT S))]) (st := []) (hz_dec kX12_store 77 rfl) co_X12_597 im_X12_poolAnew se_X12_poolAnew rfl hO1 h8 (by omega) (c_pAnew (hkM.mf hm1 rfl rfl) hE1 hv6 (k1.p (show (ksB S).length < (kpB S l).length by omega)) mnb1 hcv1 i4 (old := ksT S) (show ksT S < (kpB S l).length by omega) hpo1) rfl (by omega) ⟨Nat.le_refl _, Nat.le_refl _⟩ (Nat.le_of_ble_eq_true rfl) rfl (fun r9 z9 M2 hp9 => ?_)
    obtain ⟨rfl, rfl, hf2, hE2, hag2, hck2, hpo2⟩ := hp9
    refine hz_pick (pc := 135) [1, 2, 3, 4] rfl ?_
    refine c_st_4 h8 hz hnn hvn IH hk0 how hst hlo hI hj0 hLf ((hfr.tr (hm1.mono rfl rfl)).tr (hf2.mono rfl rfl)) hE2 ((hag.tr hg1).tr hag2) ((hcw.tr (cvK.mf (bl := kpB S l) (en := enB (kpB S l)) hm1 rfl rfl rfl rfl).w).tr hck2.w) ((hmg.mf hm1 rfl rfl).mf hf2 rfl rfl) ?_ ((hor.mf hm1 rfl).mf hf2 rfl)
    rw [eP]
    have q1 : ∀ o, ¬ o = 0 → [21].elem o = false → [3, 4, 5, 6, 8, 9, 43, 44, 45, 46, 47, 48, 49, 50, 52, 54, 55, 56, 57, 58, 59, 60, 61, 62].elem o = false → fA M2 B o = fA M B o := fun o h0 a b => (fA_m hf2 h0 b).trans (fA_m hm1 h0 a)
    refine ⟨by rw [q1 16 (by decide) rfl rfl]; exact m16, by rw [q1 17 (by decide) rfl rfl]; exact m17, by rw [q1 18 (by decide) rfl rfl]; exact m18, by rw [q1 19 (by decide) rfl rfl]; exact m19, ?_, hpo2, hck2 v _ _ hv6 (fun _ => ⟨rfl, rfl⟩) hcv1, by unfold mnP; rw [q1 24 (by decide) rfl rfl]; exact mpl⟩
    show mnB M2 B v (kpB S l) (enB (kpB S l)) (kpT S l)
    rw [eT]
    exact mnb1.mf hf2 rfl
set_option maxHeartbeats 4000000 in
set_option maxRecDepth 100000 in
theorem c_st_d {κ : hz_C} {z B v : Nat} {but : Int32} (h8 : 8 ≤ B) (hz : B + 88 ≤ z) {f n p : Nat} {h : by_L} (hh : h.length = 32) {M0 : hz_M} (h530 : isA (fA M0 B 53) 0 h) {P : hz_P} (K : ∀ M, mfr B [] [5] M0 M → mdE M B → (∀ j, j < 32 → fA M B 5 j = lf h j) → hz_W κ xX12_store (f + 12) 0 0 P 0 0 67 [(4, .int (nI n)), (3, .int (nI p)), (0, .ref B), (1, .int (nI v)), (2, .int but)] [] z M) : ∀ k i M, k = 32 - i → i ≤ 32 → mfr B [] [5] M0 M → mdE M B → (∀ j, j < i → fA M B 5 j = lf h j) → hz_W κ xX12_store (f + 12) 0 0 P 0 0 40 [(6, .int (nI i)), (4, .int (nI n)), (3, .int (nI p)), (0, .ref B), (1, .int (nI v)), (2, .int but)] [] z M := by
  intro k
  induction k using Nat.strongRecOn with
  | ind k ih =>
  intro i M hk hi hfr hE h5
  obtain ⟨fs, hO, hF⟩ := id hfr.2.1
  have hA : isA (fA M B 53) 0 h := by rw [fA_m hfr (by decide) rfl]; exact h530
  refine hz_bytes hE.a53 (by omega) (by omega) (fun hby => ?_)
  refine hz_iload (pc := 40) 0 (hz_dec kX12_store 23 rfl) rfl ?_
  refine hz_bipush (pc := 42) (v := nI 32) (hz_dec kX12_store 24 rfl) (by decide) ?_
  refine hz_n_ge (pc := 44) (tgt := 67) (hz_dec kX12_store 25 rfl) (by decide) (by omega) (by omega) (fun h1 => ?_) (fun h1 => ?_)
  · skip
    have e : i = 32 := by omega
    refine hz_pick (pc := 67) [1, 2, 3, 4, 5] rfl ?_
    exact K M hfr hE (fun j hj => h5 j (by omega))
  · skip
    refine hz_aloadn (pc := 47) 3 (hz_dec kX12_store 26 rfl) rfl ?_
    refine hz_get (pc := 48) (v := .ref (B + 5)) (hz_dec kX12_store 27 rfl) fo_X12_22 hO h8 (by omega) (hF.2 6 (by decide) (by decide)) ?_
    refine hz_iload (pc := 51) 0 (hz_dec kX12_store 28 rfl) rfl ?_
    refine hz_aloadn (pc := 53) 3 (hz_dec kX12_store 29 rfl) rfl ?_
    refine hz_get (pc := 54) (v := .ref (B + 53)) (hz_dec kX12_store 30 rfl) fo_X12_177 hO h8 (by omega) (hF.2 62 (by decide) (by decide)) ?_
    refine hz_iload (pc := 57) 0 (hz_dec kX12_store 31 rfl) rfl ?_
    refine hz_bald (pc := 59) (j := i) (hz_dec kX12_store 32 rfl) hE.a53 (by omega) (by omega) rfl (by omega) (by decide) ?_
    refine hz_bast (pc := 60) (j := i) (hz_dec kX12_store 33 rfl) hE.a5 (by omega) (by omega) rfl (by omega) (by decide) ?_
    refine hz_incN (pc := 61) (i := 6) (lo2 := [(6, .int (nI (i + 1))), (4, .int (nI n)), (3, .int (nI p)), (0, .ref B), (1, .int (nI v)), (2, .int but)]) 0 (hz_dec kX12_store 34 rfl) rfl (by decide) rfl ?_
    refine hz_goto (pc := 64) (tgt := 40) (hz_dec kX12_store 35 rfl) (by decide) ?_
    refine hz_pick (pc := 40) [0, 1, 2, 3, 4, 5] rfl ?_
    refine ih (32 - (i + 1)) (by omega) (i + 1) _ rfl (by omega) (hfr.upA (o := 5) rfl (by decide)) (hE.upA (by decide)) ?_
    rw [fA_of (va_up_self _ _ _)]
    intro q hq
    rcases (show q = i ∨ q < i by omega) with e | c
    · rw [e, upd_s, hby _ (by omega)]; have r := hA i (by omega); rw [Nat.zero_add] at r; exact r
    · rw [upd_o (by omega)]; exact h5 q c
set_option maxHeartbeats 4000000 in
set_option maxRecDepth 100000 in
theorem c_st_2 {κ : hz_C} {z B nn v : Nat} {now but : Int32} {dl : Nat → Nat} (h8 : 8 ≤ B) (hz : B + 88 ≤ z) (hnn : nn ≤ 6) (hvn : v < nn) {f : Nat} (IH : msC κ z B nn v now but dl f) {M0 : hz_M} (hk0 : md_k B M0 z) {S : ks_S} {l : by_L} {ol : List or_O} (how : orW ol) (hst : stX ol (ksB S)) (hlo : ksL S = loO ol) (hI : ksI S) (hj0 : ksJ S l = 0) (hLf : (ksL S).length ≤ f) (hmg0 : mgR M0 B nn now dl (ksQ S)) (hmn0 : mnS M0 B v 1 S (pvI (ksF S)) (ksP S)) (hor0 : orX (fA M0 B) v ol) (hmj : msJ M0 B (ksB S) l) {M : hz_M} (hfr : mfr B [] [3, 4, 5, 16, 17, 19, 51, 58, 67, 68] M0 M) (hE : mdE M B) (hag : agV M0 M B v) (hdk : ∀ j, j < 12288 → fA M B 17 (12288 * v + j) = dkW (ksD S) (ksN S) (rcS l (ksN S)) (ksF S) j) (e16 : fA M B 16 = fA M0 B 16) (e58 : fA M B 58 = fA M0 B 58) (e67 : fA M B 67 = fA M0 B 67) (e19 : fA M B 19 v = pvI (fzN (ksF S) (l.length + 6))) (h51 : isA (fA M B 51) (12288 * v + ksN S) (rcS l (ksN S))) (h51o : ∀ x, x < 12288 * v + ksN S ∨ 12288 * v + ksN S + (l.length + 6) ≤ x → fA M B 51 x = fA M0 B 51 x) : hz_W κ xX12_store (f + 12) 0 0 (msQ M0 z B nn v now dl ol (kpL (kp nn dl now v but f) (haS l) 8 (kp1 nn dl now v but S l))) 0 0 14 [(3, .int (nI (pvF (ksB S) l))), (0, .ref B), (1, .int (nI v)), (2, .int but)] [] z M := by
  have hX1 := kp1_X (nn := nn) (dl := dl) (now := now) (v := v) (fr := but) hI hj0
  obtain ⟨k1, k2, k3, k4, k5⟩ := id hX1.2.2
  obtain ⟨i1, i2, i3, i4, i5⟩ := id hI
  obtain ⟨j1, j2, j3, j4, j5, j6⟩ := jBk_0 hj0
  have hrm := nrB_f j6
  have hln := j1.len
  have htt := i1.top
  have htop : (kpB S l).length ≤ 113 := k1.top.2.1
  have hlb : (kpB S l).length = (ksB S).length + 1 := bl_len1 _ _
  have hRt := wkS_R j3
  have hto := (i1.to j5 hRt).2
  have hv6 : v < 6 := by omega
  obtain ⟨fs, hO, hF⟩ := id hfr.2.1
  obtain ⟨n16, n17, n18, n19, nnb, npo, ncv, npl⟩ := id hmn0
  obtain ⟨q35, q39, q53, q61⟩ := id hmj
  have hkM : md_k B M z := hk0.mf hfr rfl rfl
  have hnbM : nbX (fA M B) (fL M B) v (ksB S) (ksT S) := nnb.2.1.d2 npl hfr rfl h51o
  have hA : isA (fA M B 35) 0 l := by rw [fA_m hfr (by decide) rfl]; exact q35
  have g39 : fs[39]? = some (.int (nI l.length)) := (fdB_of hO 39).symm.trans ((hfr.2.2 39 rfl).trans q39)
  have hpe := i1.2.2.2.2.1.ht (k := pvF (ksB S) l) (by rw [enB_len]; exact j5)
  refine hz_aloadn (pc := 14) 1 (hz_dec kX12_store 8 rfl) rfl ?_
  refine hz_get (pc := 15) (v := .ref (B + 20)) (hz_dec kX12_store 9 rfl) fo_X12_71 hO h8 (by omega) (hF.2 22 (by decide) (by decide)) ?_
  refine hz_iloadn (pc := 18) 2 (hz_dec kX12_store 10 rfl) rfl ?_
  refine hz_iald (pc := 19) (j := v) (hz_dec kX12_store 11 rfl) hE.a20 (by omega) (by omega) rfl (by omega) (by decide) ?_
  refine hz_eqi (pc := 20) hnbM.1 ?_
  refine hz_istore (pc := 20) (i := 4) (lo2 := [(4, .int (nI ((ksB S).length))), (3, .int (nI (pvF (ksB S) l))), (0, .ref B), (1, .int (nI v)), (2, .int but)]) (hz_dec kX12_store 12 rfl) (by decide) rfl ?_
  refine hz_aloadn (pc := 22) 2 (hz_dec kX12_store 13 rfl) rfl ?_
  refine hz_aloadn (pc := 23) 2 (hz_dec kX12_store 14 rfl) rfl ?_
  refine hz_get (pc := 24) (v := .ref (B + 35)) (hz_dec kX12_store 15 rfl) fo_X12_116 hO h8 (by omega) (hF.2 38 (by decide) (by decide)) ?_
  refine hz_iconst (pc := 27) (v := nI 0) (hz_dec kX12_store 16 rfl) (by decide) ?_
  refine hz_aloadn (pc := 28) 2 (hz_dec kX12_store 17 rfl) rfl ?_
  refine hz_get (pc := 29) (v := .int (nI (l.length))) (hz_dec kX12_store 18 rfl) fo_X12_422 hO h8 (by omega) g39 ?_
  refine hz_callV (pc := 32) (a := B) (As := [.ref (B + 35), .int (nI 0), .int (nI (l.length))]) (st := []) (hz_dec kX12_store 19 rfl) co_X12_437 im_X12_isBlock se_X12_isBlock rfl hO h8 (by omega) (c_isB hO hF h8 hz hE.a14 hE.a35 (by omega) (by omega) (by decide) (by omega)) rfl (by omega) ⟨Nat.le_refl _, Nat.le_refl _⟩ (Nat.le_of_ble_eq_true rfl) rfl (fun r9 z9 M1 hp9 => ?_)
  obtain ⟨rfl, rfl, hf1, s1, pc1, hO1_, h141, hs1⟩ := hp9
  have hbn0 : bk_n (fA M B 35) l.length = bkN l := bk_n_c (fun i hi => by have q := hA i hi; rw [Nat.zero_add] at q; exact q)
  have hst0 : ∀ j, bk_st (fA M B 35) l.length j = bkS l j := fun j => (bk_st_c (fun i hi => by have q := hA i hi; rw [Nat.zero_add] at q; exact q) j).1
  rw [hbn0] at hs1
  have hfm1 : mfr B [16] [14] M M1 := ⟨fun a ha => hf1 a (fun o9 ho9 => ha o9 ho9), ⟨_, hO1_, md_set hF rfl⟩, fun k hk9 => by rw [fdB_of hO1_, fdB_of hO]; exact List.getElem?_set_ne (fun c => by rw [← c] at hk9; cases hk9)⟩
  have hE1 : mdE M1 B := hE.gen hfm1 (A := []) (E := [14]) rfl sho_n (sho_c (shoA (by decide) h141) sho_n)
  have h16a : fdB M1 B 16 = some (.int (nI (bkN l))) := by rw [fdB_of hO1_, List.getElem?_set_self (by rw [hF.1]; decide), (hs1 j1).1]
  have h14a : ∀ j, j ≤ bkN l → fA M1 B 14 j = nI (bkS l j) := fun j hj => by rw [fA_of h141, (hs1 j1).2 j hj, hst0]
  have h531 : isA (fA M1 B 53) 0 (haS l) := by rw [fA_m hfm1 (by decide) rfl, fA_m hfr (by decide) rfl]; exact q53
  refine hz_istore (pc := 35) (i := 5) (lo2 := [(5, .int (hz_b (decide (¬ bk_n (fA M B 35) l.length = 0)))), (4, .int (nI ((ksB S).length))), (3, .int (nI (pvF (ksB S) l))), (0, .ref B), (1, .int (nI v)), (2, .int but)]) (hz_dec kX12_store 20 rfl) (by decide) rfl ?_
  refine hz_iconst (pc := 37) (v := nI 0) (hz_dec kX12_store 21 rfl) (by decide) ?_
  refine hz_istore (pc := 38) (i := 6) (lo2 := [(6, .int (nI 0)), (5, .int (hz_b (decide (¬ bk_n (fA M B 35) l.length = 0)))), (4, .int (nI ((ksB S).length))), (3, .int (nI (pvF (ksB S) l))), (0, .ref B), (1, .int (nI v)), (2, .int but)]) (hz_dec kX12_store 22 rfl) (by decide) rfl ?_
  refine hz_pick (pc := 40) [0, 2, 3, 4, 5, 6] rfl ?_
  refine c_st_d h8 hz (haS_len l) h531 (fun M2 hm2 hE2 h52 => ?_) 32 0 M1 rfl (by omega) (mfr.rf hfm1.2.1) hE1 (fun j hj => absurd hj (by omega))
  obtain ⟨fs2, hO2, hF2⟩ := id hm2.2.1
  have hm02 : mfr B [16] [5, 14] M M2 := (hfm1.mono rfl rfl).tr (hm2.mono rfl rfl)
  have hk2 : md_k B M2 z := hkM.mf hm02 rfl rfl
  have q18 : fA M2 B 18 v = nI (ksN S) := by rw [fA_m hm02 (by decide) rfl, fA_m hfr (by decide) rfl]; exact n18
  have q20 : fA M2 B 20 v = nI (ksB S).length := by rw [fA_m hm02 (by decide) rfl]; exact hnbM.1
  have hR2 : rvX (fA M2 B) v (ksB S).length (enB (ksB S)) := (nnb.1.mf hfr rfl).mf hm02 rfl
  have hN2 := hnbM.mf hm02 rfl
  have q27 : fA M2 B 27 (128 * v + pvF (ksB S) l) = nI (eH (enB (ksB S)) (pvF (ksB S) l)) := ((hR2 (pvF (ksB S) l) (by rw [enB_len]; exact j5)).1 j5).2.1
  have q31 : bg (fA M2 B 31) (9 * (128 * v + pvF (ksB S) l)) 9 = bTo (ksB S) (pvF (ksB S) l) := (hN2.2.2 (pvF (ksB S) l) j5).2.2.1
  refine hz_aloadn (pc := 67) 2 (hz_dec kX12_store 36 rfl) rfl ?_
  refine hz_iloadn (pc := 68) 3 (hz_dec kX12_store 37 rfl) rfl ?_
  refine hz_aloadn (pc := 69) 2 (hz_dec kX12_store 38 rfl) rfl ?_
  refine hz_get (pc := 70) (v := .ref (B + 18)) (hz_dec kX12_store 39 rfl) fo_X12_65 hO2 h8 (by omega) (hF2.2 20 (by decide) (by decide)) ?_
  refine hz_iloadn (pc := 73) 3 (hz_dec kX12_store 40 rfl) rfl ?_
  refine hz_iald (pc := 74) (j := v) (hz_dec kX12_store 41 rfl) hE2.a18 (by omega) (by omega) rfl (by omega) (by decide) ?_
  refine hz_eqi (pc := 75) q18 ?_
  refine hz_iloadn (pc := 75) 1 (hz_dec kX12_store 42 rfl) rfl ?_
  refine hz_callV (pc := 76) (a := B) (As := [.int (nI v), .int (nI (ksN S)), .int (nI (pvF (ksB S) l))]) (st := []) (hz_dec kX12_store 43 rfl) co_X12_449 im_X12_register se_X12_register rfl hO2 h8 (by omega) (c_regP (pl := nI (ksN S)) hk2 hE2 hv6 (by omega) q20 j1 (by rw [fA_m hm02 (by decide) rfl]; exact hA) ((hm02.2.2 39 rfl).trans ((hfr.2.2 39 rfl).trans q39)) (by rw [fA_m hm2 (by decide) rfl]; exact h14a) ((hm2.2.2 16 rfl).trans h16a) h52 j5 q27 (by omega) hRt (by rw [q31]; exact Nat.lt_of_lt_of_le hto (by decide))) rfl (by omega) ⟨Nat.le_refl _, Nat.le_refl _⟩ (Nat.le_of_ble_eq_true rfl) rfl (fun r9 z9 M3 hp9 => ?_)
  obtain ⟨rfl, rfl, hf3, hE3, hag3, hrg3⟩ := hp9
  obtain ⟨fs3, hO3, hF3⟩ := id hf3.2.1
  have hbx := i1.2.2.2.2.2.1
  have hAr : isA (fA M2 B 51) (12288 * v + ksN S + 2) l := by rw [fA_m hm02 (by decide) rfl]; intro j hj; have q := h51 (j + 2) (by rw [rcS_len]; omega); rw [show 12288 * v + ksN S + 2 + j = 12288 * v + ksN S + (j + 2) by omega, q, rcS_b (by omega) (by omega)]; rfl
  have hnb3 : nbX (fA M3 B) (fL M3 B) v (kpB S l) (ksT S) := rgX.nb (nx := 0) (pv := some (pvF (ksB S) l)) (en := enB (ksB S)) hN2 hrg3 hbx (by rw [q31]; rfl) (by rw [fA_m hf3 (by decide) rfl]) (fA_m hf3 (by decide) rfl) (fA_m hf3 (by decide) rfl) (Or.inr ⟨ksN S, rfl, by omega, hAr⟩)
  have hrv3 : rvX (fA M3 B) v (kpB S l).length (enB (kpB S l)) := by rw [hlb]; unfold kpB; rw [enB_app]; exact rgX.rv (pv := some (pvF (ksB S) l)) hR2 (enB_len _) i1.2.2.2.2.1 hrg3 rfl (fun q hq => by cases hq; exact j5)
  have o24 := hrg3.2.2.2.2.2.2.2.2.2.2.2.1 24 (by decide)
  have n24 : fA M3 B 24 (128 * v + (ksB S).length) = nI (ksN S) := hrg3.2.1
  have b24 : fA M2 B 24 = fA M0 B 24 := (fA_m hm02 (by decide) rfl).trans (fA_m hfr (by decide) rfl)
  have hmnb3 : mnB M3 B v (kpB S l) (enB (kpB S l)) (ksT S) := by
    refine ⟨hrv3, hnb3, fun k hk => ?_⟩
    rcases (show k = (ksB S).length ∨ k < (ksB S).length by omega) with e | c
    · rw [e, n24]; exact Or.inr (fun c9 => by have r := congrArg Int32.toInt c9; rw [nI_toInt (by omega)] at r; have r2 : (ksN S : Int) = (-1 : Int) := r; omega)
    · rw [o24 _ (by omega), b24]; unfold kpB; rw [bBy_app c]; exact nnb.2.2 k c
  have hmpl3 : mnP M3 B v (kpB S l) (ksN S + l.length + 6) := by
    intro k hk
    rcases (show k = (ksB S).length ∨ k < (ksB S).length by omega) with e | c
    · refine Or.inr ⟨ksN S, by rw [e]; exact n24, ?_⟩; rw [e]; unfold kpB; rw [bBy_last]; exact Nat.le_refl _
    · rw [o24 _ (by omega), b24]; unfold kpB; rw [bBy_app c]; rcases npl k c with d | ⟨p, d1, d2⟩; exact Or.inl d; exact Or.inr ⟨p, d1, by omega⟩
  have q183 : fA M3 B 18 v = nI (ksN S) := by rw [fA_m hf3 (by decide) rfl]; exact q18
  have q213 : fA M3 B 21 v = nI (ksT S) := hnb3.2.1
  have g393 : fs3[39]? = some (.int (nI l.length)) := (fdB_of hO3 39).symm.trans ((hf3.2.2 39 rfl).trans ((hm02.2.2 39 rfl).trans ((hfr.2.2 39 rfl).trans q39)))
  refine hz_aloadn (pc := 79) 2 (hz_dec kX12_store 44 rfl) rfl ?_
  refine hz_get (pc := 80) (v := .ref (B + 18)) (hz_dec kX12_store 45 rfl) fo_X12_65 hO3 h8 (by omega) (hF3.2 20 (by decide) (by decide)) ?_
  refine hz_iloadn (pc := 83) 3 (hz_dec kX12_store 46 rfl) rfl ?_
  refine hz_dup2 (pc := 84) (hz_dec kX12_store 47 rfl) rfl rfl ?_
  refine hz_iald (pc := 85) (j := v) (hz_dec kX12_store 48 rfl) hE3.a18 (by omega) (by omega) rfl (by omega) (by decide) ?_
  refine hz_eqi (pc := 86) q183 ?_
  refine hz_aloadn (pc := 86) 2 (hz_dec kX12_store 49 rfl) rfl ?_
  refine hz_get (pc := 87) (v := .int (nI (l.length))) (hz_dec kX12_store 50 rfl) fo_X12_422 hO3 h8 (by omega) g393 ?_
  refine hz_bipush (pc := 90) (v := nI 6) (hz_dec kX12_store 51 rfl) (by decide) ?_
  refine hz_addN (pc := 92) (hz_dec kX12_store 52 rfl) ?_
  refine hz_addN (pc := 93) (hz_dec kX12_store 53 rfl) ?_
  refine hz_iast (pc := 94) (j := v) (hz_dec kX12_store 54 rfl) hE3.a18 (by omega) (by omega) rfl (by omega) (by decide) ?_
  refine hz_aloadn (pc := 95) 2 (hz_dec kX12_store 55 rfl) rfl ?_
  refine hz_iconst (pc := 96) (v := (-1)) (hz_dec kX12_store 56 rfl) (by decide) ?_
  refine hz_puti (pc := 97) (hz_dec kX12_store 57 rfl) fo_X12_158 ft_X12_54 (hz_mne hO3 (by omega)) h8 (by omega) (by rw [hF3.1]; decide) ?_
  refine hz_aloadn (pc := 100) 2 (hz_dec kX12_store 58 rfl) rfl ?_
  refine hz_get (pc := 101) (v := .ref (B + 21)) (hz_dec kX12_store 59 rfl) fo_X12_74 (va_up_self _ _ _) h8 (by omega) ((md_set hF3 rfl).2 23 (by decide) (by decide)) ?_
  refine hz_iloadn (pc := 104) 3 (hz_dec kX12_store 60 rfl) rfl ?_
  refine hz_iald (pc := 105) (j := v) (hz_dec kX12_store 61 rfl) (hz_mne (hz_mne hE3.a21 (by omega)) (by omega)) (by omega) (by omega) rfl (by omega) (by decide) ?_
  refine hz_eqi (pc := 106) q213 ?_
  refine hz_istore (pc := 106) (i := 6) (lo2 := [(6, .int (nI (ksT S))), (4, .int (nI ((ksB S).length))), (3, .int (nI (pvF (ksB S) l))), (0, .ref B), (1, .int (nI v)), (2, .int but)]) (hz_dec kX12_store 62 rfl) (by decide) rfl ?_
  refine hz_pick (pc := 108) [0, 1, 3, 4, 5] rfl ?_
  have hm4 : mfr B [54] [18] M3 (va_up (va_up M3 (B + 18) (.inl (0, 6, .inl (upd (fA M3 B 18) v ((nI ((ksN S) + ((l.length) + 6)))))))) B (.inr (12, (List.set fs3 54 (.int (-1)))))) := ((mfr.rf ⟨fs3, hO3, hF3⟩).upA (o := 18) rfl (by decide)).upO (k := 54) (hz_mne hO3 (by omega)) hF3 rfl rfl
  have hE4 : mdE (va_up (va_up M3 (B + 18) (.inl (0, 6, .inl (upd (fA M3 B 18) v ((nI ((ksN S) + ((l.length) + 6)))))))) B (.inr (12, (List.set fs3 54 (.int (-1)))))) B := (hE3.upA (by decide)).upO
  have p18 : fA (va_up (va_up M3 (B + 18) (.inl (0, 6, .inl (upd (fA M3 B 18) v ((nI ((ksN S) + ((l.length) + 6)))))))) B (.inr (12, (List.set fs3 54 (.int (-1)))))) B 18 = upd (fA M3 B 18) v (nI (ksN S + (l.length + 6))) := fA_of (hz_mne (va_up_self _ _ _) (by omega))
  have p54 : fdB (va_up (va_up M3 (B + 18) (.inl (0, 6, .inl (upd (fA M3 B 18) v ((nI ((ksN S) + ((l.length) + 6)))))))) B (.inr (12, (List.set fs3 54 (.int (-1)))))) B 54 = some (.int (-1)) := by rw [fdB_of (va_up_self _ _ _), List.getElem?_set_self (by rw [hF3.1]; decide)]
  have hg4 : agV M3 (va_up (va_up M3 (B + 18) (.inl (0, 6, .inl (upd (fA M3 B 18) v ((nI ((ksN S) + ((l.length) + 6)))))))) B (.inr (12, (List.set fs3 54 (.int (-1)))))) B v := fun u hu => agN.of hm4 (fun p hp e => by
      have r : p.1 = 18 := by simpa using e
      have hs : agS.all (fun p => decide (p.1 = 18 → p.2 = 1)) = true := by decide
      have s := of_decide_eq_true (List.all_eq_true.mp hs p hp) r
      intro j hj; rw [r, p18]; rw [s] at hj ⊢; exact upd_o (by omega)) (fun p hp e => by have r := List.all_eq_true.mp (show agL.all (fun p => !([18] : List Nat).elem p.1) = true from rfl) p hp; rw [e] at r; cases r)
  generalize hM4 : (va_up (va_up M3 (B + 18) (.inl (0, 6, .inl (upd (fA M3 B 18) v ((nI ((ksN S) + ((l.length) + 6)))))))) B (.inr (12, (List.set fs3 54 (.int (-1)))))) = M4 at *
  obtain ⟨cn0, cb0, c1, c2, c3⟩ := id ncv
  have p55 : fdB M4 B 55 = some (.int cb0) := (hm4.2.2 55 rfl).trans ((hf3.2.2 55 rfl).trans ((hm02.2.2 55 rfl).trans ((hfr.2.2 55 rfl).trans c2)))
  have hfr4 : mfr B [16, 39, 53, 54, 55, 59, 61, 86, 87, 88] [3, 4, 5, 6, 7, 8, 9, 10, 11, 12, 13, 14, 15, 16, 17, 18, 19, 20, 21, 24, 25, 26, 27, 28, 29, 30, 31, 32, 33, 35, 36, 42, 43, 44, 45, 46, 47, 48, 49, 50, 51, 52, 53, 54, 55, 56, 57, 58, 59, 60, 61, 62, 63, 64, 65, 66, 67, 68, 70, 71, 72, 73, 74, 75, 76] M0 M4 := (((hfr.mono rfl rfl).tr (hm02.mono rfl rfl)).tr (hf3.mono rfl rfl)).tr (hm4.mono rfl rfl)
  have q1 : ∀ o, ¬ o = 0 → [18].elem o = false → [3, 4, 5, 10, 11, 12, 13, 20, 24, 25, 26, 27, 28, 29, 30, 31, 32, 33, 36].elem o = false → [5, 14].elem o = false → fA M4 B o = fA M B o := fun o h0 a b c => (fA_m hm4 h0 a).trans ((fA_m hf3 h0 b).trans (fA_m hm02 h0 c))
  refine c_st_3 h8 hz hnn hvn IH hk0 how hst hlo hI hj0 hLf hfr4 hE4 (((hag.tr (agV.mf hm02 rfl rfl)).tr hag3).tr hg4) (cvW.no p54 p55) ((((hmg0.mf hfr rfl rfl).mf hm02 rfl rfl).mf hf3 rfl rfl).mf hm4 rfl rfl) ⟨?_, ?_, ?_, ?_, hmnb3.mf hm4 rfl, ?_, cvX_no hv6 p54 p55, by unfold mnP; rw [fA_m hm4 (by decide) rfl]; exact hmpl3⟩ ?_
  · rw [q1 16 (by decide) rfl rfl rfl, e16]; exact n16
  · rw [q1 17 (by decide) rfl rfl rfl]; exact hdk
  · rw [p18, upd_s, ← Nat.add_assoc]; rfl
  · rw [q1 19 (by decide) rfl rfl rfl]; exact e19
  · have hpoM : poX (fA M B) (fL M B) v (ksP S) := by unfold poX; rw [e58, fA_m (o := 54) hfr (by decide) rfl, fA_m (o := 55) hfr (by decide) rfl, fL_c (hfr.at 56 (by decide) rfl), fL_c (hfr.at 57 (by decide) rfl)]; exact npo
    exact ((hpoM.mf hm02 rfl).mf hf3 rfl).mf hm4 rfl
  · have horM : orX (fA M B) v ol := by unfold orX oeX; rw [e67, fA_m (o := 63) hfr (by decide) rfl, fA_m (o := 64) hfr (by decide) rfl, fA_m (o := 65) hfr (by decide) rfl, fA_m (o := 66) hfr (by decide) rfl]; exact hor0
    exact ((horM.mf hm02 rfl).mf hf3 rfl).mf hm4 rfl
set_option maxHeartbeats 4000000 in
set_option maxRecDepth 100000 in
theorem c_st_1 {κ : hz_C} {z B nn v : Nat} {now but : Int32} {dl : Nat → Nat} (h8 : 8 ≤ B) (hz : B + 88 ≤ z) (hnn : nn ≤ 6) (hvn : v < nn) {f : Nat} (IH : msC κ z B nn v now but dl f) : msC κ z B nn v now but dl (f + 1) := by
  intro S l M ol hk0 hE hmg hmn hor how hst hlo hmj hI hj0 hLf
  refine hz_ent (lo := [(0, .ref B), (1, .int (nI v)), (2, .int but)]) (by decide) (Nat.le_of_ble_eq_true rfl) rfl ?_
  show hz_W κ xX12_store (f + 12) 0 0 (msQ M z B nn v now dl ol (kp nn dl now v but (f + 1) S l)) 0 0 0 [(0, .ref B), (1, .int (nI v)), (2, .int but)] [] z M
  obtain ⟨⟨fs, hO, hF⟩, -, -, h8_, hz_⟩ := id hk0
  obtain ⟨i1, i2, i3, i4, i5⟩ := id hI
  obtain ⟨j1, j2, j3, j4, j5, j6⟩ := jBk_0 hj0
  have hrm := nrB_f j6
  have hln := j1.len
  have hv6 : v < 6 := by omega
  obtain ⟨n16, n17, n18, n19, nnb, npo, ncv, npl⟩ := id hmn
  obtain ⟨q35, q39, q53, q61⟩ := id hmj
  have g61 : fs[61]? = some (.int (nI (pvF (ksB S) l))) := (fdB_of hO 61).symm.trans q61
  refine hz_aloadn (pc := 0) 0 (hz_dec kX12_store 0 rfl) rfl ?_
  refine hz_get (pc := 1) (v := .int (nI (pvF (ksB S) l))) (hz_dec kX12_store 1 rfl) fo_X12_541 hO h8 (by omega) g61 ?_
  refine hz_istoren (pc := 4) (i := 3) (lo2 := [(3, .int (nI (pvF (ksB S) l))), (0, .ref B), (1, .int (nI v)), (2, .int but)]) (hz_dec kX12_store 2 rfl) rfl (by decide) rfl ?_
  refine hz_aloadn (pc := 5) 1 (hz_dec kX12_store 3 rfl) rfl ?_
  refine hz_iloadn (pc := 6) 2 (hz_dec kX12_store 4 rfl) rfl ?_
  refine hz_callV (pc := 7) (a := B) (As := [.int (nI v)]) (st := []) (hz_dec kX12_store 5 rfl) co_X12_591 im_X12_writeRecord se_X12_writeRecord rfl hO h8 (by omega) (c_wrRec hk0 hE hv6 (by omega) q35 q39 n18 (by omega) n17 i3 n19) rfl (by omega) ⟨Nat.le_refl _, Nat.le_refl _⟩ (Nat.le_of_ble_eq_true rfl) rfl (fun r9 z9 M1 hp9 => ?_)
  obtain ⟨rfl, rfl, hf1, hE1, hag1, hdk1, hok1, hno1⟩ := hp9
  have hkp : kp nn dl now v but (f + 1) S l = if fzO (ksF S) (l.length + 6) = true then kpL (kp nn dl now v but f) (haS l) 8 (kp1 nn dl now v but S l) else (kp0 S l, false) := rfl
  refine hz_if_ne (pc := 10) (tgt := 14) (hz_dec kX12_store 6 rfl) (by decide) (fun h1 => ?_) (fun h1 => ?_)
  · skip
    have eO : fzO (ksF S) (l.length + 6) = true := hz_b1 h1
    rw [hkp, if_pos eO]
    obtain ⟨e16, e58, e67, e19, h51, h51o⟩ := hok1 eO
    refine hz_pick (pc := 14) [0, 1, 2, 3] rfl ?_
    exact c_st_2 h8 hz hnn hvn IH hk0 how hst hlo hI hj0 (by omega) hmg hmn hor hmj hf1 hE1 hag1 hdk1 e16 e58 e67 e19 h51 h51o
  · skip
    have eO : fzO (ksF S) (l.length + 6) = false := hz_b0 h1
    rw [hkp, if_neg (by rw [eO]; decide)]
    obtain ⟨e51, e16, e58, e67, e19⟩ := hno1 eO
    have hm51 : nbX (fA M1 B) (fL M1 B) v (ksB S) (ksT S) := nnb.2.1.d2 (L := 0) npl hf1 rfl (fun x _ => by rw [e51])
    have hcv1 := cvK.mf (v := v) (bl := ksB S) (en := enB (ksB S)) hf1 rfl rfl rfl rfl
    exact hz_vret (pc := 13) (hz_dec kX12_store 7 rfl) rfl ⟨rfl, rfl, hf1.mono rfl rfl, hE1, hag1, hcv1.w, hmg.mf hf1 rfl rfl, (fun q9 => by cases q9), fun _ => ⟨⟨e16, hdk1, by rw [fA_m hf1 (by decide) rfl]; exact n18, e19, ⟨nnb.1.mf hf1 rfl, hm51, by rw [fA_m hf1 (by decide) rfl]; exact nnb.2.2⟩, ⟨e58, fun k hk => absurd hk (Nat.not_lt_zero k)⟩, hcv1 v _ _ hv6 (fun _ => ⟨rfl, rfl⟩) ncv, by unfold mnP; rw [fA_m hf1 (by decide) rfl]; exact npl⟩, e67, fun k hk => absurd hk (Nat.not_lt_zero k)⟩⟩
theorem c_store {κ : hz_C} {z B nn v : Nat} {now but : Int32} {dl : Nat → Nat} (h8 : 8 ≤ B) (hz : B + 88 ≤ z) (hnn : nn ≤ 6) (hvn : v < nn) : ∀ f, msC κ z B nn v now but dl f := by
  intro f
  induction f with
  | zero => intro S l M ol hk0 hE hmg hmn hor how hst hlo hmj hI hj0 hLf; exact absurd hLf (Nat.not_lt_zero _)
  | succ f ih => exact c_st_1 h8 hz hnn hvn ih
