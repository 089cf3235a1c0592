/-! the reference: a node's blocks; tryPool, bringBack -/
/-- stored blocks, the pure side -/
def blP (bl : List bk_B) (en : List en_E) (tip : Nat) : Prop := bl.length ≤ 113 ∧ en.length = bl.length ∧ wfE en ∧ blX bl ∧ tip < bl.length ∧ (∀ k, k < bl.length → cbX bl en k) ∧ (∀ k, k < bl.length → (coAt bl en k).length ≤ 360 ∧ coHt (coAt bl en k)) ∧ hdX bl
/-- and in the reference's arrays -/
def mnB (M : hz_M) (B v : Nat) (bl : List bk_B) (en : List en_E) (tip : Nat) : Prop := rvX (fA M B) v bl.length en ∧ nbX (fA M B) (fL M B) v bl tip ∧ ∀ k, k < bl.length → (bBy bl k).length ≤ 200 ∨ fA M B 24 (128 * v + k) ≠ -1
theorem mnB.mf {M M2 : hz_M} {B v tip : Nat} {bl : List bk_B} {en : List en_E} {ks os : List Nat} (h : mnB M B v bl en tip) (f : mfr B ks os M M2) (ho : [20, 21, 24, 25, 26, 27, 28, 29, 30, 31, 32, 33, 34, 38, 39, 40, 41, 51].all (fun o => !os.elem o) = true) : mnB M2 B v bl en tip := by
  have hall := List.all_eq_true.mp ho
  have ne : ∀ o, o ∈ [20, 21, 24, 25, 26, 27, 28, 29, 30, 31, 32, 33, 34, 38, 39, 40, 41, 51] → os.elem o = false := fun o h9 => by have q := hall o h9; cases e : os.elem o with
    | false => rfl
    | true => rw [e] at q; cases q
  refine ⟨h.1.mf f ?_, h.2.1.mf f ?_, ?_⟩
  · refine List.all_eq_true.mpr (fun o h9 => ?_)
    rw [ne o (by revert h9; revert o; decide)]
    rfl
  · refine List.all_eq_true.mpr (fun o h9 => ?_)
    rw [ne o (by revert h9; revert o; decide)]
    rfl
  · rw [fA_m f (by decide) (ne 24 (by decide))]
    exact h.2.2
theorem mnB.ag {M M2 : hz_M} {B w tip : Nat} {bl : List bk_B} {en : List en_E} (h : mnB M B w bl en tip) (g : agN M M2 B w) (hb : blP bl en tip) (h34 : fA M2 B 34 = fA M B 34) : mnB M2 B w bl en tip := by
  obtain ⟨a1, a2, a3, a4, -⟩ := hb
  refine ⟨h.1.ag g (by omega) a2, h.2.1.ag g (by omega) a4 h34, fun k hk => ?_⟩
  rw [g.a 24 128 (by decide) (j := k) (by omega)]
  exact h.2.2 k hk
/-- the coins that are kept stay right, whosever they are -/
def cvK (M M2 : hz_M) (B v : Nat) (bl : List bk_B) (en : List en_E) : Prop := ∀ w bl2 en2, w < 6 → (w = v → bl2 = bl ∧ en2 = en) → cvX M B w bl2 en2 → cvX M2 B w bl2 en2
theorem cvK.rf {M : hz_M} {B v : Nat} {bl : List bk_B} {en : List en_E} : cvK M M B v bl en := fun _ _ _ _ _ h => h
theorem cvK.tr {M M2 M3 : hz_M} {B v : Nat} {bl : List bk_B} {en : List en_E} (h : cvK M M2 B v bl en) (h2 : cvK M2 M3 B v bl en) : cvK M M3 B v bl en := fun w b e hw hv q => h2 w b e hw hv (h w b e hw hv q)
theorem cvK.mf {M M2 : hz_M} {B v : Nat} {bl : List bk_B} {en : List en_E} {ks os : List Nat} (f : mfr B ks os M M2) (h53 : ks.elem 53 = false) (h54 : ks.elem 54 = false) (h55 : ks.elem 55 = false) (ho : [43, 44, 45, 46, 47, 48].all (fun o => !os.elem o) = true) : cvK M M2 B v bl en := by
  intro w b e hw hv ⟨cn, cb, q1, q2, q3⟩
  refine ⟨cn, cb, (f.2.2 54 h54).trans q1, (f.2.2 55 h55).trans q2, fun c => ?_⟩
  obtain ⟨x, x1, x2, x3⟩ := q3 c
  exact ⟨x, x1, x2, x3.fr f h53 ho⟩
theorem ccP.k {M M2 : hz_M} {B v x : Nat} {bl : List bk_B} {en : List en_E} (h : ccP M M2 B v x (coAt bl en x)) (hv : v < 6) (hx : x < bl.length) : cvK M M2 B v bl en := by
  intro w b e hw hwv ⟨cn, cb, q1, q2, q3⟩
  rcases h with ⟨h1, h2, h3⟩ | ⟨cb2, h1, h2⟩
  · refine ⟨cn, cb, h1.trans q1, h2.trans q2, fun c => ?_⟩
    obtain ⟨y, y1, y2, y3⟩ := q3 c
    exact ⟨y, y1, y2, h3 _ y3⟩
  · rcases h2 with h2 | ⟨h2, h3, h4⟩
    · exact ⟨-1, cb2, h2, h1, fun c => absurd c (fun c9 => by have r := congrArg Int32.toInt c9; rw [nI_toInt (by omega)] at r; have r2 : (-1 : Int) = (w : Int) := r; omega)⟩
    · refine ⟨nI v, cb2, h2, h1, fun c => ?_⟩
      have ew : w = v := ((nI_eq (by omega) (by omega)).mp c).symm
      obtain ⟨e1, e2⟩ := hwv ew
      rw [e1, e2]
      exact ⟨x, hx, h3, h4⟩
theorem cvX_no {M : hz_M} {B v : Nat} {bl : List bk_B} {en : List en_E} {cb : Int32} (hv : v < 6) (h54 : fdB M B 54 = some (.int (-1))) (h55 : fdB M B 55 = some (.int cb)) : cvX M B v bl en := ⟨-1, cb, h54, h55, fun c => absurd c (fun c9 => by have r := congrArg Int32.toInt c9; rw [nI_toInt (by omega)] at r; have r2 : (-1 : Int) = (v : Int) := r; omega)⟩
set_option maxHeartbeats 4000000 in
set_option maxRecDepth 100000 in
theorem c_aPoV {κ : hz_C} {z : Nat} {M : hz_M} {B : Nat} (hk0 : md_k B M z) (hE : mdE M B) {v : Nat} (hv : v < 6) {po : List po_P} (hp : poX (fA M B) (fL M B) v po) (h16 : po.length < 16) {r n at_ : Nat} {f : Nat → Int32} {t : by_L} (hB : M r = .inl (1, n, .inl f)) (hr8 : 8 ≤ r) (hrz : r < z) (hro : ∀ o ∈ (0 :: [3, 4, 5, 54, 55, 56, 57, 58]), r ≠ B + o) (hn : n < 2 ^ 24) (ht : isA f at_ t) (hat : at_ + t.length ≤ n) (hW : txW t) (hpl9 : ∀ k, k < po.length → (poL po k).length ≤ 360) {fe : Int64} (h59 : fdB M B 59 = some (.long fe)) : hz_Mt κ xX12_addToPool 4 0 0 [.ref B, .int (nI v), .ref r, .int (nI at_), .int (nI t.length)] z M (fun rr z2 M2 => none = rr ∧ z = z2 ∧ mfr B [] [3, 4, 5, 54, 55, 56, 57, 58] M M2 ∧ mdE M2 B ∧ poX (fA M2 B) (fL M2 B) v (po ++ [(t, fe)]) ∧ agV M M2 B v) := by
  refine hz_ent (lo := [(0, .ref B), (1, .int (nI v)), (2, .ref r), (3, .int (nI at_)), (4, .int (nI (t.length)))]) (by decide) (Nat.le_of_ble_eq_true rfl) rfl ?_
  obtain ⟨⟨fs, hO, hF⟩, -, -, h8, hz⟩ := id hk0
  have tl := txW_len hW
  have g59 : fs[59]? = some (.long fe) := (fdB_of hO 59).symm.trans h59
  refine hz_bipush (pc := 0) (v := nI 16) (hz_dec kX12_addToPool 0 rfl) (by decide) ?_
  refine hz_iloadn (pc := 2) 1 (hz_dec kX12_addToPool 1 rfl) rfl ?_
  refine hz_mulN (pc := 3) (hz_dec kX12_addToPool 2 rfl) ?_
  refine hz_aloadn (pc := 4) 0 (hz_dec kX12_addToPool 3 rfl) rfl ?_
  refine hz_get (pc := 5) (v := .ref (B + 58)) (hz_dec kX12_addToPool 4 rfl) fo_X12_193 hO h8 (by omega) (hF.2 67 (by decide) (by decide)) ?_
  refine hz_iloadn (pc := 8) 1 (hz_dec kX12_addToPool 5 rfl) rfl ?_
  refine hz_iald (pc := 9) (j := v) (hz_dec kX12_addToPool 6 rfl) hE.a58 (by omega) (by omega) rfl (by omega) (by decide) ?_
  refine hz_eqi (pc := 10) hp.1 ?_
  refine hz_addN (pc := 10) (hz_dec kX12_addToPool 7 rfl) ?_
  refine hz_istore (pc := 11) (i := 5) (lo2 := [(5, .int (nI ((16 * v) + (po.length)))), (0, .ref B), (1, .int (nI v)), (2, .ref r), (3, .int (nI at_)), (4, .int (nI (t.length)))]) (hz_dec kX12_addToPool 8 rfl) (by decide) rfl ?_
  refine hz_aloadn (pc := 13) 1 (hz_dec kX12_addToPool 9 rfl) rfl ?_
  refine hz_get (pc := 14) (v := .ref (B + 58)) (hz_dec kX12_addToPool 10 rfl) fo_X12_193 hO h8 (by omega) (hF.2 67 (by decide) (by decide)) ?_
  refine hz_iloadn (pc := 17) 2 (hz_dec kX12_addToPool 11 rfl) rfl ?_
  refine hz_dup2 (pc := 18) (hz_dec kX12_addToPool 12 rfl) rfl rfl ?_
  refine hz_iald (pc := 19) (j := v) (hz_dec kX12_addToPool 13 rfl) hE.a58 (by omega) (by omega) rfl (by omega) (by decide) ?_
  refine hz_eqi (pc := 20) hp.1 ?_
  refine hz_iconst (pc := 20) (v := nI 1) (hz_dec kX12_addToPool 14 rfl) (by decide) ?_
  refine hz_addN (pc := 21) (hz_dec kX12_addToPool 15 rfl) ?_
  refine hz_iast (pc := 22) (j := v) (hz_dec kX12_addToPool 16 rfl) hE.a58 (by omega) (by omega) rfl (by omega) (by decide) ?_
  refine hz_aloadn (pc := 23) 1 (hz_dec kX12_addToPool 17 rfl) rfl ?_
  refine hz_get (pc := 24) (v := .ref (B + 55)) (hz_dec kX12_addToPool 18 rfl) fo_X12_184 (hz_mne hO (by omega)) h8 (by omega) (hF.2 64 (by decide) (by decide)) ?_
  refine hz_iload (pc := 27) 0 (hz_dec kX12_addToPool 19 rfl) rfl ?_
  refine hz_iload (pc := 29) 5 (hz_dec kX12_addToPool 20 rfl) rfl ?_
  refine hz_iast (pc := 31) (j := (16 * v) + (po.length)) (hz_dec kX12_addToPool 21 rfl) (hz_mne hE.a55 (by omega)) (by omega) (by omega) rfl (by omega) (by decide) ?_
  refine hz_aloadn (pc := 32) 1 (hz_dec kX12_addToPool 22 rfl) rfl ?_
  refine hz_get (pc := 33) (v := .ref (B + 57)) (hz_dec kX12_addToPool 23 rfl) fo_X12_190 (hz_mne (hz_mne hO (by omega)) (by omega)) h8 (by omega) (hF.2 66 (by decide) (by decide)) ?_
  refine hz_iload (pc := 36) 0 (hz_dec kX12_addToPool 24 rfl) rfl ?_
  refine hz_aloadn (pc := 38) 1 (hz_dec kX12_addToPool 25 rfl) rfl ?_
  refine hz_get (pc := 39) (v := .long fe) (hz_dec kX12_addToPool 26 rfl) fo_X12_523 (hz_mne (hz_mne hO (by omega)) (by omega)) h8 (by omega) g59 ?_
  refine hz_last (pc := 42) (j := (16 * v) + (po.length)) (hz_dec kX12_addToPool 27 rfl) (hz_mne (hz_mne hE.a57 (by omega)) (by omega)) (by omega) (by omega) rfl (by omega) (by decide) ?_
  refine hz_aloadn (pc := 43) 1 (hz_dec kX12_addToPool 28 rfl) rfl ?_
  refine hz_get (pc := 44) (v := .ref (B + 56)) (hz_dec kX12_addToPool 29 rfl) fo_X12_187 (hz_mne (hz_mne (hz_mne hO (by omega)) (by omega)) (by omega)) h8 (by omega) (hF.2 65 (by decide) (by decide)) ?_
  refine hz_iload (pc := 47) 0 (hz_dec kX12_addToPool 30 rfl) rfl ?_
  refine hz_aloadn (pc := 49) 1 (hz_dec kX12_addToPool 31 rfl) rfl ?_
  refine hz_aloadn (pc := 50) 3 (hz_dec kX12_addToPool 32 rfl) rfl ?_
  refine hz_iloadn (pc := 51) 4 (hz_dec kX12_addToPool 33 rfl) rfl ?_
  refine hz_iload (pc := 52) 5 (hz_dec kX12_addToPool 34 rfl) rfl ?_
  have hf1 : mfr B [] [55, 57, 58] M (va_up (va_up (va_up M (B + 58) (.inl (0, 6, .inl (upd (fA M B 58) v ((nI ((po.length) + 1))))))) (B + 55) (.inl (0, 96, .inl (upd (fA M B 55) ((16 * v) + (po.length)) ((nI (t.length))))))) (B + 57) (.inl (2, 96, .inr (.inl (vp_updL (fL M B 57) ((16 * v) + (po.length)) (fe)))))) := (((mfr.rf ⟨fs, hO, hF⟩).upA (o := 58) rfl (by decide)).upA (o := 55) rfl (by decide)).upA (o := 57) rfl (by decide)
  have hE1 : mdE (va_up (va_up (va_up M (B + 58) (.inl (0, 6, .inl (upd (fA M B 58) v ((nI ((po.length) + 1))))))) (B + 55) (.inl (0, 96, .inl (upd (fA M B 55) ((16 * v) + (po.length)) ((nI (t.length))))))) (B + 57) (.inl (2, 96, .inr (.inl (vp_updL (fL M B 57) ((16 * v) + (po.length)) (fe)))))) B := ((hE.upA (by decide)).upA (by decide)).upL (by decide)
  have hg1 : agV M (va_up (va_up (va_up M (B + 58) (.inl (0, 6, .inl (upd (fA M B 58) v ((nI ((po.length) + 1))))))) (B + 55) (.inl (0, 96, .inl (upd (fA M B 55) ((16 * v) + (po.length)) ((nI (t.length))))))) (B + 57) (.inl (2, 96, .inr (.inl (vp_updL (fL M B 57) ((16 * v) + (po.length)) (fe)))))) B v := ((agV.rf.upA (s := 1) (by decide) (by decide) (fun x hx => upd_o (by omega))).upA (s := 16) (by decide) (by decide) (fun x hx => (upd_o (by omega)).trans (by rw [fA_c (hz_mne rfl (by omega))]))).upL (s := 16) (by decide) (by decide) (fun x hx => (updL_o (by omega)).trans (by rw [fL_c (hz_mne (hz_mne rfl (by omega)) (by omega))]))
  have p54 : (va_up (va_up (va_up M (B + 58) (.inl (0, 6, .inl (upd (fA M B 58) v ((nI ((po.length) + 1))))))) (B + 55) (.inl (0, 96, .inl (upd (fA M B 55) ((16 * v) + (po.length)) ((nI (t.length))))))) (B + 57) (.inl (2, 96, .inr (.inl (vp_updL (fL M B 57) ((16 * v) + (po.length)) (fe)))))) (B + 54) = .inl (1, 34560, .inl (fA M B 54)) := (hz_mne (hz_mne (hz_mne hE.a54 (by omega)) (by omega)) (by omega))
  have p55 : (va_up (va_up (va_up M (B + 58) (.inl (0, 6, .inl (upd (fA M B 58) v ((nI ((po.length) + 1))))))) (B + 55) (.inl (0, 96, .inl (upd (fA M B 55) ((16 * v) + (po.length)) ((nI (t.length))))))) (B + 57) (.inl (2, 96, .inr (.inl (vp_updL (fL M B 57) ((16 * v) + (po.length)) (fe)))))) (B + 55) = .inl (0, 96, .inl (upd (fA M B 55) ((16 * v) + (po.length)) ((nI (t.length))))) := (hz_mne (va_up_self _ _ _) (by omega))
  have p56 : (va_up (va_up (va_up M (B + 58) (.inl (0, 6, .inl (upd (fA M B 58) v ((nI ((po.length) + 1))))))) (B + 55) (.inl (0, 96, .inl (upd (fA M B 55) ((16 * v) + (po.length)) ((nI (t.length))))))) (B + 57) (.inl (2, 96, .inr (.inl (vp_updL (fL M B 57) ((16 * v) + (po.length)) (fe)))))) (B + 56) = .inl (2, 96, .inr (.inl (fL M B 56))) := (hz_mne (hz_mne (hz_mne hE.a56 (by omega)) (by omega)) (by omega))
  have p57 : (va_up (va_up (va_up M (B + 58) (.inl (0, 6, .inl (upd (fA M B 58) v ((nI ((po.length) + 1))))))) (B + 55) (.inl (0, 96, .inl (upd (fA M B 55) ((16 * v) + (po.length)) ((nI (t.length))))))) (B + 57) (.inl (2, 96, .inr (.inl (vp_updL (fL M B 57) ((16 * v) + (po.length)) (fe)))))) (B + 57) = .inl (2, 96, .inr (.inl (vp_updL (fL M B 57) ((16 * v) + (po.length)) (fe)))) := (va_up_self _ _ _)
  have p58 : (va_up (va_up (va_up M (B + 58) (.inl (0, 6, .inl (upd (fA M B 58) v ((nI ((po.length) + 1))))))) (B + 55) (.inl (0, 96, .inl (upd (fA M B 55) ((16 * v) + (po.length)) ((nI (t.length))))))) (B + 57) (.inl (2, 96, .inr (.inl (vp_updL (fL M B 57) ((16 * v) + (po.length)) (fe)))))) (B + 58) = .inl (0, 6, .inl (upd (fA M B 58) v ((nI ((po.length) + 1))))) := (hz_mne (hz_mne (va_up_self _ _ _) (by omega)) (by omega))
  generalize hM1 : (va_up (va_up (va_up M (B + 58) (.inl (0, 6, .inl (upd (fA M B 58) v ((nI ((po.length) + 1))))))) (B + 55) (.inl (0, 96, .inl (upd (fA M B 55) ((16 * v) + (po.length)) ((nI (t.length))))))) (B + 57) (.inl (2, 96, .inr (.inl (vp_updL (fL M B 57) ((16 * v) + (po.length)) (fe)))))) = M1 at *
  have hk1 : md_k B M1 z := hk0.mf hf1 rfl rfl
  obtain ⟨fs1, hO1, hF1⟩ := id hf1.2.1
  have hB1 : M1 r = .inl (1, n, .inl f) := (hf1.1 r (fun o ho => hro o (by revert ho; revert o; decide))).trans hB
  refine hz_callV (pc := 54) (a := B) (As := [.ref r, .int (nI at_), .int (nI (t.length))]) (st := [.int (nI ((16 * v) + (po.length))), .ref (B + 56)]) (hz_dec kX12_addToPool 35 rfl) co_X12_338 im_X12_shortOf se_X12_shortOf rfl hO1 h8 (by omega) (c_shortOf (n := t.length) hk1 hE1.s hB1 hr8 hrz (by omega) (by omega)) rfl (by decide) ⟨Nat.le_refl _, Nat.le_refl _⟩ (Nat.le_of_ble_eq_true rfl) rfl (fun r9 z9 M2 hp9 => ?_)
  obtain ⟨rfl, rfl, hf2, hs2, -⟩ := hp9
  refine hz_eql (pc := 57) (show _ = idS t by rw [shS_of ht rfl]; rfl) ?_
  have hf2m : mfr B [] [3, 4, 5] M1 M2 := mfr.ofl ⟨fs1, hO1, hF1⟩ hf2 rfl
  have hE2 : mdE M2 B := hE1.hs hf2m hs2 rfl
  obtain ⟨fs2, hO2, hF2⟩ := id hf2m.2.1
  have q54 := (hf2m.at 54 (by decide) rfl).trans p54
  have q55 := (hf2m.at 55 (by decide) rfl).trans p55
  have q56 := (hf2m.at 56 (by decide) rfl).trans p56
  have q57 := (hf2m.at 57 (by decide) rfl).trans p57
  have q58 := (hf2m.at 58 (by decide) rfl).trans p58
  have hB2 : M2 r = .inl (1, n, .inl f) := (hf2m.1 r (fun o ho => hro o (by revert ho; revert o; decide))).trans hB1
  refine hz_last (pc := 57) (j := (16 * v) + (po.length)) (hz_dec kX12_addToPool 36 rfl) q56 (by omega) (by omega) rfl (by omega) (by decide) ?_
  refine hz_iconst (pc := 58) (v := nI 0) (hz_dec kX12_addToPool 37 rfl) (by decide) ?_
  refine hz_istore (pc := 59) (i := 6) (lo2 := [(6, .int (nI 0)), (5, .int (nI ((16 * v) + (po.length)))), (0, .ref B), (1, .int (nI v)), (2, .ref r), (3, .int (nI at_)), (4, .int (nI (t.length)))]) (hz_dec kX12_addToPool 38 rfl) (by decide) rfl ?_
  refine hz_pick (pc := 61) [0, 1, 6, 2, 3, 4, 5] rfl ?_
  have hf3 : mfr B [] [56] M2 (va_up M2 (B + 56) (.inl (2, 96, .inr (.inl (vp_updL (fL M B 56) ((16 * v) + (po.length)) (idS t)))))) := (mfr.rf ⟨fs2, hO2, hF2⟩).upA (o := 56) rfl (by decide)
  have hE3 : mdE (va_up M2 (B + 56) (.inl (2, 96, .inr (.inl (vp_updL (fL M B 56) ((16 * v) + (po.length)) (idS t)))))) B := hE2.upL (by decide)
  have hg3 : agV M (va_up M2 (B + 56) (.inl (2, 96, .inr (.inl (vp_updL (fL M B 56) ((16 * v) + (po.length)) (idS t)))))) B v := (hg1.tr (agV.mf hf2m rfl rfl)).upL (s := 16) (by decide) (by decide) (fun x hx => (updL_o (by omega)).trans (by rw [fL_of q56]))
  have r54 := (hf3.at 54 (by decide) rfl).trans q54
  have r55 := (hf3.at 55 (by decide) rfl).trans q55
  have r57 := (hf3.at 57 (by decide) rfl).trans q57
  have r58 := (hf3.at 58 (by decide) rfl).trans q58
  have r56 : (va_up M2 (B + 56) (.inl (2, 96, .inr (.inl (vp_updL (fL M B 56) ((16 * v) + (po.length)) (idS t)))))) (B + 56) = .inl (2, 96, .inr (.inl (vp_updL (fL M B 56) ((16 * v) + (po.length)) (idS t)))) := va_up_self _ _ _
  have hB3 := (hf3.1 r (fun o ho => hro o (by revert ho; revert o; decide))).trans hB2
  obtain ⟨fs3, hO3, hF3⟩ := id hf3.2.1
  generalize hM3 : (va_up M2 (B + 56) (.inl (2, 96, .inr (.inl (vp_updL (fL M B 56) ((16 * v) + (po.length)) (idS t)))))) = M3 at *
  refine hz_bytes hB3 hr8 hrz (fun hby => ?_)
  refine hz_mem (pc := 61) (hz_upid r54).symm ?_
  refine c_ap_l hO3 hF3 h8 hz r54 hv h16 hB3 hr8 hrz (hro 54 (by decide)) hn ht hat (by omega) hby (fun g hgA hgl => ?_) t.length 0 _ rfl (by omega) (fun j hj => absurd hj (by omega)) (fun x _ => rfl)
  have hf4 : mfr B [] [54] M3 (va_up M3 (B + 54) (.inl (1, 34560, .inl g))) := (mfr.rf ⟨fs3, hO3, hF3⟩).upA (o := 54) rfl (by decide)
  have hg4 : agV M (va_up M3 (B + 54) (.inl (1, 34560, .inl g))) B v := hg3.upA (s := 5760) (by decide) (by decide) (fun x hx => (hgl x (by omega)).trans (by rw [fA_of r54]))
  have s55 := (hf4.at 55 (by decide) rfl).trans r55
  have s56 := (hf4.at 56 (by decide) rfl).trans r56
  have s57 := (hf4.at 57 (by decide) rfl).trans r57
  have s58 := (hf4.at 58 (by decide) rfl).trans r58
  have s54 : (va_up M3 (B + 54) (.inl (1, 34560, .inl g))) (B + 54) = .inl (1, 34560, .inl g) := va_up_self _ _ _
  refine ⟨rfl, rfl, (((hf1.mono rfl rfl).tr (hf2m.mono rfl rfl)).tr (hf3.mono rfl rfl)).tr (hf4.mono rfl rfl), hE3.upA (by decide), ⟨?_, fun k hk => ?_⟩, hg4⟩
  · rw [fA_of s58, List.length_append]; simp only [upd]; exact if_pos trivial
  · rw [fA_of s55, fL_of s56, fL_of s57, fA_of s54]
    rw [List.length_append] at hk
    have hk2 : k < po.length + 1 := hk
    rcases (show k = po.length ∨ k < po.length by omega) with e | c
    · rw [e, poL_last.1, poL_last.2]; simp only [upd, vp_updL]; exact ⟨if_pos trivial, if_pos trivial, if_pos trivial, hgA⟩
    · rw [(poL_app c).1, (poL_app c).2]; simp only [upd, vp_updL, if_neg (show ¬ 16 * v + k = 16 * v + po.length by omega)]
      obtain ⟨a1, a2, a3, a4⟩ := hp.2 k c
      exact ⟨a1, a2, a3, isA_c a4 (fun j hj => hgl _ (by have q := hpl9 k c; omega))⟩
set_option maxHeartbeats 4000000 in
set_option maxRecDepth 100000 in
theorem c_tryP {κ : hz_C} {z : Nat} {M : hz_M} {B : Nat} (hk0 : md_k B M z) (hE : mdE M B) {v tip : Nat} {bl : List bk_B} {en : List en_E} (hv : v < 6) (hb : blP bl en tip) (hmn : mnB M B v bl en tip) (hcv : cvX M B v bl en) {po : List po_P} (hp : poX (fA M B) (fL M B) v po) (hpw : poW po) {r n at_ : Nat} {f : Nat → Int32} {t : by_L} (hB : M r = .inl (1, n, .inl f)) (hr8 : 8 ≤ r) (hrz : r < z) (hro : ∀ o ∈ (0 :: [3, 4, 5, 6, 8, 9, 43, 44, 45, 46, 47, 48, 49, 50, 52, 54, 55, 56, 57, 58]), r ≠ B + o) (hn : n < 2 ^ 24) (ht : isA f at_ t) (hat : at_ + t.length ≤ n) : hz_Mt κ xX12_tryPool 9 0 0 [.ref B, .int (nI v), .ref r, .int (nI at_), .int (nI t.length)] z M (fun rr z2 M2 => none = rr ∧ z = z2 ∧ mfr B [53, 54, 55, 59] [3, 4, 5, 6, 8, 9, 43, 44, 45, 46, 47, 48, 49, 50, 52, 54, 55, 56, 57, 58] M M2 ∧ mdE M2 B ∧ agV M M2 B v ∧ cvK M M2 B v bl en ∧ poX (fA M2 B) (fL M2 B) v (poN po (coAt bl en tip) t (eH en tip + 1) true)) := by
  refine hz_ent (lo := [(0, .ref B), (1, .int (nI v)), (2, .ref r), (3, .int (nI at_)), (4, .int (nI (t.length)))]) (by decide) (Nat.le_of_ble_eq_true rfl) rfl ?_
  obtain ⟨⟨fs, hO, hF⟩, -, -, h8, hz⟩ := id hk0
  obtain ⟨b1, b2, b3, b4, b5, b6, b7, b8⟩ := id hb
  obtain ⟨m1, m2, m3⟩ := id hmn
  obtain ⟨c1, c2⟩ := b7 tip b5
  refine hz_aloadn (pc := 0) 0 (hz_dec kX12_tryPool 0 rfl) rfl ?_
  refine hz_iloadn (pc := 1) 1 (hz_dec kX12_tryPool 1 rfl) rfl ?_
  refine hz_aloadn (pc := 2) 2 (hz_dec kX12_tryPool 2 rfl) rfl ?_
  refine hz_iloadn (pc := 3) 3 (hz_dec kX12_tryPool 3 rfl) rfl ?_
  refine hz_iload (pc := 4) 4 (hz_dec kX12_tryPool 4 rfl) rfl ?_
  refine hz_callV (pc := 6) (a := B) (As := [.int (nI v), .ref r, .int (nI at_), .int (nI (t.length))]) (st := []) (hz_dec kX12_tryPool 5 rfl) co_X12_578 im_X12_judgeForPool se_X12_judgeForPool rfl hO h8 (by omega) (c_jfp hk0 hE hv (by omega) (by omega) m1 m2 b3 b4 m3 b5 (b6 tip b5) c1 c2 hcv hp hpw hB hr8 hrz (fun o ho => hro o (by revert ho; revert o; decide)) hn ht hat) rfl (by decide) ⟨Nat.le_refl _, Nat.le_refl _⟩ (Nat.le_of_ble_eq_true rfl) rfl (fun r9 z9 M1 hp9 => ?_)
  obtain ⟨rfl, rfl, hf1, hE1, hcc1, hfe1⟩ := hp9
  have hcv1 := ccP.k hcc1 hv b5
  have hag1 : agV M M1 B v := agV.mf hf1 rfl rfl
  have hp1 := hp.mf hf1 rfl
  obtain ⟨fs1, hO1, hF1⟩ := id hf1.2.1
  have hk1 : md_k B M1 z := hk0.mf hf1 rfl rfl
  have hB1 : M1 r = .inl (1, n, .inl f) := (hf1.1 r (fun o ho => hro o (by revert ho; revert o; decide))).trans hB
  have hv99 : jPo po (coAt bl en tip) t (eH en tip + 1) < 100 := by unfold jPo; have q9 := jSp_lt (coAt bl en tip) t (eH en tip + 1); repeat (first | omega | split)
  refine hz_z_ne (pc := 9) (tgt := 21) (hz_dec kX12_tryPool 6 rfl) (by decide) (by omega) (fun h1 => ?_) (fun h1 => ?_)
  · skip
    exact hz_vret (pc := 21) (hz_dec kX12_tryPool 13 rfl) rfl ⟨rfl, rfl, hf1.mono rfl rfl, hE1, hag1, hcv1, by unfold poN; rw [if_neg (fun q => by omega)]; exact hp1⟩
  · skip
    have e0 : jPo po (coAt bl en tip) t (eH en tip + 1) = 0 := by omega
    obtain ⟨tW, ti, t16⟩ := jPo_0 e0
    refine hz_aloadn (pc := 12) 0 (hz_dec kX12_tryPool 7 rfl) rfl ?_
    refine hz_iloadn (pc := 13) 1 (hz_dec kX12_tryPool 8 rfl) rfl ?_
    refine hz_aloadn (pc := 14) 2 (hz_dec kX12_tryPool 9 rfl) rfl ?_
    refine hz_iloadn (pc := 15) 3 (hz_dec kX12_tryPool 10 rfl) rfl ?_
    refine hz_iload (pc := 16) 4 (hz_dec kX12_tryPool 11 rfl) rfl ?_
    refine hz_callV (pc := 18) (a := B) (As := [.int (nI v), .ref r, .int (nI at_), .int (nI (t.length))]) (st := []) (hz_dec kX12_tryPool 12 rfl) co_X12_582 im_X12_addToPool se_X12_addToPool rfl hO1 h8 (by omega) (c_aPoV hk1 hE1 hv hp1 t16 hB1 hr8 hrz (fun o ho => hro o (by revert ho; revert o; decide)) hn ht hat tW (fun k hk => by have q := txW_len (hpw.2 k hk).1; omega) (hfe1 e0)) rfl (by decide) ⟨Nat.le_refl _, Nat.le_refl _⟩ (Nat.le_of_ble_eq_true rfl) rfl (fun r9 z9 M2 hp9 => ?_)
    obtain ⟨rfl, rfl, hf2, hE2, hp2, hag2⟩ := hp9
    have hg2 : agV M1 M2 B v := hag2
    exact hz_vret (pc := 21) (hz_dec kX12_tryPool 13 rfl) rfl ⟨rfl, rfl, (hf1.mono rfl rfl).tr (hf2.mono rfl rfl), hE2, hag1.tr hg2, hcv1.tr (cvK.mf hf2 rfl rfl rfl rfl), by unfold poN; rw [if_pos ⟨e0, rfl⟩]; exact hp2⟩
set_option maxHeartbeats 4000000 in
set_option maxRecDepth 100000 in
theorem c_brB_l {κ : hz_C} {z : Nat} {M0 : hz_M} {B : Nat} (hO_ : md_O M0 B) (hE0 : mdE M0 B) (h8 : 8 ≤ B) (hz : B + 88 ≤ z) {v tip : Nat} {bl : List bk_B} {en : List en_E} (hv : v < 6) (hb : blP bl en tip) (hmn : mnB M0 B v bl en tip) {x : Nat} (hx : x < bl.length) : ∀ k i M, k = (bBy bl x).length - i → i ≤ (bBy bl x).length → mfr B [] [50, 62] M0 M → mdE M B → isA (fA M B 50) 0 (bBy bl x) → (∀ j, j < i → fA M B 62 j = lf (bBy bl x) j) → hz_W κ xX12_bringBack 2 0 0 (fun rr z2 M2 => none = rr ∧ z = z2 ∧ mfr B [] [50, 62] M0 M2 ∧ mdE M2 B ∧ isA (fA M2 B 62) 0 (bBy bl x)) 0 0 8 [(3, .int (nI i)), (0, .ref B), (1, .int (nI v)), (2, .int (nI x))] [] z M := by
  intro k
  induction k using Nat.strongRecOn with
  | ind k ih =>
  intro i M hk hi hfr hE h50 h62
  obtain ⟨fs, hO, hF⟩ := id hfr.2.1
  obtain ⟨b1, b2, b3, b4, b5, b6, b7, b8⟩ := id hb
  have hln := (b4 x hx).len
  have hNx : fA M B 25 (128 * v + x) = nI (bBy bl x).length := by rw [fA_m hfr (by decide) rfl]; exact (hmn.2.1.2.2 x hx).1
  refine hz_bytes hE.a50 (by omega) (by omega) (fun hby => ?_)
  refine hz_iloadn (pc := 8) 0 (hz_dec kX12_bringBack 6 rfl) rfl ?_
  refine hz_aloadn (pc := 9) 1 (hz_dec kX12_bringBack 7 rfl) rfl ?_
  refine hz_get (pc := 10) (v := .ref (B + 25)) (hz_dec kX12_bringBack 8 rfl) fo_X12_86 hO h8 (by omega) (hF.2 27 (by decide) (by decide)) ?_
  refine hz_iloadn (pc := 13) 2 (hz_dec kX12_bringBack 9 rfl) rfl ?_
  refine hz_iloadn (pc := 14) 3 (hz_dec kX12_bringBack 10 rfl) rfl ?_
  refine hz_xS (pc := 15) (As := [.int (nI v), .int (nI x)]) (st := [.ref (B + 25), .int (nI i)]) (hz_dec kX12_bringBack 11 rfl) co_X12_419 sc_X12_at0 (c_at0) rfl (by decide) ⟨Nat.le_refl _, Nat.le_refl _⟩ (Nat.le_of_ble_eq_true rfl) rfl ?_
  refine hz_iald (pc := 18) (j := 128 * v + x) (hz_dec kX12_bringBack 12 rfl) hE.a25 (by omega) (by omega) rfl (by omega) (by decide) ?_
  refine hz_eqi (pc := 19) hNx ?_
  refine hz_n_ge (pc := 19) (tgt := 40) (hz_dec kX12_bringBack 13 rfl) (by decide) (by omega) (by omega) (fun h1 => ?_) (fun h1 => ?_)
  · skip
    have e : i = (bBy bl x).length := by omega
    exact hz_vret (pc := 40) (hz_dec kX12_bringBack 24 rfl) rfl ⟨rfl, rfl, hfr, hE, fun j hj => by rw [Nat.zero_add]; exact h62 j (by omega)⟩
  · skip
    refine hz_aloadn (pc := 22) 1 (hz_dec kX12_bringBack 14 rfl) rfl ?_
    refine hz_get (pc := 23) (v := .ref (B + 62)) (hz_dec kX12_bringBack 15 rfl) fo_X12_205 hO h8 (by omega) (hF.2 71 (by decide) (by decide)) ?_
    refine hz_iloadn (pc := 26) 0 (hz_dec kX12_bringBack 16 rfl) rfl ?_
    refine hz_aloadn (pc := 27) 1 (hz_dec kX12_bringBack 17 rfl) rfl ?_
    refine hz_get (pc := 28) (v := .ref (B + 50)) (hz_dec kX12_bringBack 18 rfl) fo_X12_168 hO h8 (by omega) (hF.2 57 (by decide) (by decide)) ?_
    refine hz_iloadn (pc := 31) 0 (hz_dec kX12_bringBack 19 rfl) rfl ?_
    refine hz_bald (pc := 32) (j := i) (hz_dec kX12_bringBack 20 rfl) hE.a50 (by omega) (by omega) rfl (by omega) (by decide) ?_
    refine hz_bast (pc := 33) (j := i) (hz_dec kX12_bringBack 21 rfl) hE.a62 (by omega) (by omega) rfl (by omega) (by decide) ?_
    refine hz_incN (pc := 34) (i := 3) (lo2 := [(3, .int (nI (i + 1))), (0, .ref B), (1, .int (nI v)), (2, .int (nI x))]) 0 (hz_dec kX12_bringBack 22 rfl) rfl (by decide) rfl ?_
    refine hz_goto (pc := 37) (tgt := 8) (hz_dec kX12_bringBack 23 rfl) (by decide) ?_
    refine hz_pick (pc := 8) [0, 1, 2, 3] rfl ?_
    refine ih ((bBy bl x).length - (i + 1)) (by omega) (i + 1) _ rfl (by omega) (hfr.upA (o := 62) rfl (by decide)) (hE.upA (by decide)) (by rw [fA_c (hz_mne rfl (by omega))]; exact h50) ?_
    rw [fA_of (va_up_self _ _ _)]
    intro j hj
    rcases (show j = i ∨ j < i by omega) with e | c
    · rw [e, upd_s, hby _ (by omega)]; have q := h50 i h1; rw [Nat.zero_add] at q; exact q
    · rw [upd_o (by omega)]; exact h62 j c
set_option maxHeartbeats 4000000 in
set_option maxRecDepth 100000 in
theorem c_brB {κ : hz_C} {z : Nat} {M : hz_M} {B : Nat} (hO_ : md_O M B) (hE0 : mdE M B) (h8 : 8 ≤ B) (hz : B + 88 ≤ z) {v tip : Nat} {bl : List bk_B} {en : List en_E} (hv : v < 6) (hb : blP bl en tip) (hmn : mnB M B v bl en tip) {x : Nat} (hx : x < bl.length) : hz_Mt κ xX12_bringBack 2 0 0 [.ref B, .int (nI v), .int (nI x)] z M (fun rr z2 M2 => none = rr ∧ z = z2 ∧ mfr B [] [50, 62] M M2 ∧ mdE M2 B ∧ isA (fA M2 B 62) 0 (bBy bl x)) := by
  refine hz_ent (lo := [(0, .ref B), (1, .int (nI v)), (2, .int (nI x))]) (by decide) (Nat.le_of_ble_eq_true rfl) rfl ?_
  obtain ⟨fs, hO, hF⟩ := id hO_
  obtain ⟨b1, b2, b3, b4, b5, b6, b7, b8⟩ := id hb
  have hln := (b4 x hx).len
  refine hz_aloadn (pc := 0) 0 (hz_dec kX12_bringBack 0 rfl) rfl ?_
  refine hz_iloadn (pc := 1) 1 (hz_dec kX12_bringBack 1 rfl) rfl ?_
  refine hz_iloadn (pc := 2) 2 (hz_dec kX12_bringBack 2 rfl) rfl ?_
  refine hz_callV (pc := 3) (a := B) (As := [.int (nI v), .int (nI x)]) (st := []) (hz_dec kX12_bringBack 3 rfl) co_X12_501 im_X12_bring2 se_X12_bring2 rfl hO h8 (by omega) (c_br2 hO_ hE0 h8 hz hv (by omega) hmn.2.1 hx (hmn.2.2 x hx) (by omega)) rfl (by decide) ⟨Nat.le_refl _, Nat.le_refl _⟩ (Nat.le_of_ble_eq_true rfl) rfl (fun r9 z9 M1 hp9 => ?_)
  obtain ⟨rfl, rfl, g, hg, hM1⟩ := hp9
  have hf1 : mfr B [] [50, 62] M M1 := hM1 ▸ (mfr.rf ⟨fs, hO, hF⟩).upA (o := 50) rfl (by decide)
  have hE1 : mdE M1 B := hM1 ▸ hE0.upA (by decide)
  have e50 : fA M1 B 50 = g := by rw [← hM1]; exact fA_of (va_up_self _ _ _)
  refine hz_iconst (pc := 6) (v := nI 0) (hz_dec kX12_bringBack 4 rfl) (by decide) ?_
  refine hz_istoren (pc := 7) (i := 3) (lo2 := [(3, .int (nI 0)), (0, .ref B), (1, .int (nI v)), (2, .int (nI x))]) (hz_dec kX12_bringBack 5 rfl) rfl (by decide) rfl ?_
  refine hz_pick (pc := 8) [0, 1, 2, 3] rfl ?_
  exact c_brB_l hO_ hE0 h8 hz hv hb hmn hx (bBy bl x).length 0 M1 rfl (by omega) hf1 hE1 (by rw [e50]; exact hg) (fun j hj => absurd hj (by omega))
