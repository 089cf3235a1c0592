/-! headers: the reference -/
theorem isA_apl {f : Nat → Int32} {k : Nat} {a b : by_L} (h : isA f k (a ++ b)) : isA f k a := by
  intro j hj
  have q := h j (by rw [List.length_append]; omega)
  rw [q]
  unfold lf
  rw [List.getD_eq_getElem?_getD, List.getD_eq_getElem?_getD, List.getElem?_append_left hj]
def rhF (M0 M : hz_M) (B v : Nat) (bl : List bk_B) (en : List en_E) (a : by_L) : Prop := mfr B [] [3, 4, 5, 7, 10, 11, 37, 38, 39, 40, 41, 42] M0 M ∧ mdE M B ∧ rvX (fA M B) v bl.length en ∧ isA (fA M B 37) 0 a
theorem rhF.l {M0 M : hz_M} {B v : Nat} {bl : List bk_B} {en : List en_E} {a b : by_L} (h : rhF M0 M B v bl en (a ++ b)) : rhF M0 M B v bl en a := ⟨h.1, h.2.1, h.2.2.1, isA_apl h.2.2.2⟩
theorem rhF.mf {M0 M M2 : hz_M} {B v : Nat} {bl : List bk_B} {en : List en_E} {a : by_L} {os : List Nat} (h : rhF M0 M B v bl en a) (f : mfr B [] os M M2) (hE : mdE M2 B) (ho : [26, 27, 28, 29, 38, 39, 40, 41].all (fun o => !os.elem o) = true) (h37 : os.elem 37 = false) (hs : os.all (fun o => [3, 4, 5, 7, 10, 11, 37, 38, 39, 40, 41, 42].elem o) = true) : rhF M0 M2 B v bl en a := ⟨h.1.tr (f.mono rfl hs), hE, h.2.2.1.mf f ho, by rw [fA_m f (by decide) h37]; exact h.2.2.2⟩
theorem rvX.app {fa fa2 : Nat → Nat → Int32} {v nb c p : Nat} {en : List en_E} {h : by_L} (hR : rvX fa v nb en) (he : en.length = nb + c) (e26 : fa2 26 = fa 26) (e27 : fa2 27 = fa 27) (e28 : fa2 28 = fa 28) (e29 : fa2 29 = fa 29) (e38 : fa2 38 = upd (fa 38) c (nI (rx nb p))) (e39 : fa2 39 = upd (fa 39) c (nI (eH en p + 1))) (e40 : fa2 40 = upd (fa 40) c (bn_int (lf h) 64)) (e41 : fa2 41 = upd (fa 41) c (bn_int (lf h) 68)) : rvX fa2 v nb (en ++ [enN_ en h p]) := by
  intro y hy
  rw [List.length_append] at hy
  have hy1 : y < en.length + 1 := hy
  rw [e26, e27, e28, e29, e38, e39, e40, e41]
  rcases (show y < en.length ∨ y = en.length by omega) with q | q
  · have r := hR y q
    unfold eP eH eT eB at r ⊢
    rw [enL_app q]
    refine ⟨r.1, fun hn => ?_⟩
    rw [upd_o (by omega), upd_o (by omega), upd_o (by omega), upd_o (by omega)]
    exact r.2 hn
  · rw [q]
    refine ⟨fun hn => absurd hn (by omega), fun _ => ?_⟩
    rw [show en.length - nb = c by omega, upd_s, upd_s, upd_s, upd_s]
    rw [show eH (en ++ [enN_ en h p]) en.length = eH en p + 1 by unfold eH; rw [enL_last]; rfl]
    unfold eP eT eB
    rw [enL_last]
    exact ⟨rfl, rfl, rfl, rfl⟩
theorem hhT_w {bl : List bk_B} {h : by_L} {s : hh_S} (h1 : ¬ blF bl (hhH h) < bl.length) (h3 : wkS h = false) : hhT bl h s = none := by
  cases e : hhP bl h s with
  | none => exact hhT_n h1 e
  | some p => exact hhT_f h1 e (Or.inl h3)
theorem hhT_tm {bl : List bk_B} {l h : by_L} {i : Nat} {s : hh_S} (hI : hhI bl l i s) (h1 : ¬ blF bl (hhH h) < bl.length) (h3 : bn_int (lf h) 64 < 0) : hhT bl h s = none := by
  cases e : hhP bl h s with
  | none => exact hhT_n h1 e
  | some p => exact hhT_f h1 e (Or.inr (decide_eq_false (fun q => midE_pos hI.2.1 (hhP_lt hI e) (Int32.lt_trans q.1 h3))))
set_option maxHeartbeats 4000000 in
set_option maxRecDepth 100000 in
theorem c_ir_n {κ : hz_C} {z B v : Nat} (hv6 : v < 6) {M : hz_M} {S : ks_S} {l : by_L} (hk0 : md_k B M z) (hmn : mnB M B v (ksB S) (enB (ksB S)) (ksT S)) (hI : ksI S) (hl4 : l.length ≤ 4000) (h78 : isA (fA M B 78) 0 l) {n : Nat} (hn : n ≤ 16) (hnl : 80 * n = l.length) {i c : Nat} {en : List en_E} {b : Bool} {a : by_L} (hJI : hhI (ksB S) l i (en, b, a)) (hin : i < n) (hci : c ≤ i) (hec : en.length = (ksB S).length + c) (ha : a.length = 32 * c) (hk : ¬ blF (ksB S) (hhH (hhd l i)) < (ksB S).length) {M2 : hz_M} (hF : rhF M M2 B v (ksB S) en a) (hP : hhP (ksB S) (hhd l i) (en, b, a) = none) : hz_W κ xX12_isRightHeader 4 0 0 (fun r z2 M3 => some (.int (hz_b (hhT (ksB S) (hhd l i) (en, b, a)).isSome)) = r ∧ z = z2 ∧ (hhT (ksB S) (hhd l i) (en, b, a) = none → rhF M M3 B v (ksB S) en a) ∧ ∀ s2, hhT (ksB S) (hhd l i) (en, b, a) = some s2 → rhF M M3 B v (ksB S) s2.1 s2.2.2) 0 0 146 [(6, .int (-1)), (5, .int (bn_int (lf (hhd l i)) 68)), (4, .int (bn_int (lf (hhd l i)) 64)), (0, .ref B), (1, .int (nI v)), (2, .int (nI (80 * i))), (3, .int (nI c))] [] z M2 := by
  have e9 := hhT_n hk hP
  refine hz_iload (pc := 146) 0 (hz_dec kX12_isRightHeader 78 rfl) rfl ?_
  refine hz_if_lt (pc := 148) (tgt := 175) (hz_dec kX12_isRightHeader 79 rfl) (by decide) (fun h1 => ?_) (fun h1 => ?_)
  · skip
    refine hz_iconst (pc := 175) (v := nI 0) (hz_dec kX12_isRightHeader 92 rfl) (by decide) ?_
    exact hz_zret (pc := 176) (hz_dec kX12_isRightHeader 93 rfl) rfl rfl ⟨by rw [e9]; rfl, rfl, fun _ => hF, fun s2 q => by rw [e9] at q; cases q⟩
  · skip
    exact absurd (by decide) h1
set_option maxHeartbeats 4000000 in
set_option maxRecDepth 100000 in
theorem c_ir_p {κ : hz_C} {z B v : Nat} (hv6 : v < 6) {M : hz_M} {S : ks_S} {l : by_L} (hk0 : md_k B M z) (hmn : mnB M B v (ksB S) (enB (ksB S)) (ksT S)) (hI : ksI S) (hl4 : l.length ≤ 4000) (h78 : isA (fA M B 78) 0 l) {n : Nat} (hn : n ≤ 16) (hnl : 80 * n = l.length) {i c : Nat} {en : List en_E} {b : Bool} {a : by_L} (hJI : hhI (ksB S) l i (en, b, a)) (hin : i < n) (hci : c ≤ i) (hec : en.length = (ksB S).length + c) (ha : a.length = 32 * c) (hk : ¬ blF (ksB S) (hhH (hhd l i)) < (ksB S).length) {M2 : hz_M} (hF : rhF M M2 B v (ksB S) en (a ++ hhH (hhd l i))) {p : Nat} (hP : hhP (ksB S) (hhd l i) (en, b, a) = some p) (hwk : wkS (hhd l i) = true) : hz_W κ xX12_isRightHeader 4 0 0 (fun r z2 M3 => some (.int (hz_b (hhT (ksB S) (hhd l i) (en, b, a)).isSome)) = r ∧ z = z2 ∧ (hhT (ksB S) (hhd l i) (en, b, a) = none → rhF M M3 B v (ksB S) en a) ∧ ∀ s2, hhT (ksB S) (hhd l i) (en, b, a) = some s2 → rhF M M3 B v (ksB S) s2.1 s2.2.2) 0 0 146 [(6, .int (nI (rx (ksB S).length p))), (5, .int (bn_int (lf (hhd l i)) 68)), (4, .int (bn_int (lf (hhd l i)) 64)), (0, .ref B), (1, .int (nI v)), (2, .int (nI (80 * i))), (3, .int (nI c))] [] z M2 := by
  obtain ⟨-, -, -, h8, hz⟩ := id hk0
  obtain ⟨i1, i2, i3, i4, i5⟩ := id hI
  have htop := i1.top
  have hw5 : wfE en := hJI.2.1
  obtain ⟨hfr2, hE2, hR2, h372⟩ := id hF
  obtain ⟨fs2, hO2, hF2⟩ := id hfr2.2.1
  have hk2 := hk0.mf hfr2 rfl rfl
  have hN2 := hmn.2.1.mf hfr2 rfl
  have h782 : isA (fA M2 B 78) 0 l := by rw [fA_m hfr2 (by decide) rfl]; exact h78
  have hpl : p < en.length := hhP_lt hJI hP
  have hrx : rx (ksB S).length p < 2000 := by unfold rx; split <;> omega
  refine hz_iload (pc := 146) 0 (hz_dec kX12_isRightHeader 78 rfl) rfl ?_
  refine hz_z_lt (pc := 148) (tgt := 175) (hz_dec kX12_isRightHeader 79 rfl) (by decide) (by omega) ?_
  refine hz_iload (pc := 151) 1 (hz_dec kX12_isRightHeader 80 rfl) rfl ?_
  refine hz_aloadn (pc := 153) 3 (hz_dec kX12_isRightHeader 81 rfl) rfl ?_
  refine hz_iloadn (pc := 154) 4 (hz_dec kX12_isRightHeader 82 rfl) rfl ?_
  refine hz_iload (pc := 155) 0 (hz_dec kX12_isRightHeader 83 rfl) rfl ?_
  refine hz_callV (pc := 157) (a := B) (As := [.int (nI v), .int (nI (rx (ksB S).length p))]) (st := [.int (bn_int (lf (hhd l i)) 68)]) (hz_dec kX12_isRightHeader 84 rfl) co_X12_544 im_X12_dueBehind se_X12_dueBehind rfl hO2 h8 (by omega) (c_mdue hfr2.2.1 hE2 h8 hz hv6 (by omega) (by omega) hR2 hw5 hpl) rfl (by decide) ⟨Nat.le_refl _, Nat.le_refl _⟩ (Nat.le_of_ble_eq_true rfl) rfl (fun r9 z9 M3 hp9 => ?_)
  obtain ⟨rfl, rfl, hf3, ht3⟩ := hp9
  have hm3 : mfr B [] [10, 11] M2 M3 := mfr.ofl hfr2.2.1 hf3 rfl
  have hFF3 := hF.mf hm3 (hE2.ht hm3 ht3 rfl) rfl rfl rfl
  obtain ⟨hfr3, hE3, hR3, h373⟩ := id hFF3
  obtain ⟨fs3, hO3, hF3⟩ := id hfr3.2.1
  have hk3 := hk0.mf hfr3 rfl rfl
  have hN3 := hmn.2.1.mf hfr3 rfl
  have h783 : isA (fA M3 B 78) 0 l := by rw [fA_m hfr3 (by decide) rfl]; exact h78
  refine hz_icmp_ne (pc := 160) (tgt := 175) (hz_dec kX12_isRightHeader 85 rfl) (by decide) (fun h2 => ?_) (fun h2 => ?_)
  · skip
    have e9 := hhT_f hk hP (Or.inr (decide_eq_false (fun q => h2 q.2)))
    refine hz_iconst (pc := 175) (v := nI 0) (hz_dec kX12_isRightHeader 92 rfl) (by decide) ?_
    exact hz_zret (pc := 176) (hz_dec kX12_isRightHeader 93 rfl) rfl rfl ⟨by rw [e9]; rfl, rfl, fun _ => hFF3.l, fun s2 q => by rw [e9] at q; cases q⟩
  · skip
    refine hz_iload (pc := 163) 2 (hz_dec kX12_isRightHeader 86 rfl) rfl ?_
    refine hz_aloadn (pc := 165) 3 (hz_dec kX12_isRightHeader 87 rfl) rfl ?_
    refine hz_iloadn (pc := 166) 4 (hz_dec kX12_isRightHeader 88 rfl) rfl ?_
    refine hz_iload (pc := 167) 0 (hz_dec kX12_isRightHeader 89 rfl) rfl ?_
    refine hz_callV (pc := 169) (a := B) (As := [.int (nI v), .int (nI (rx (ksB S).length p))]) (st := [.int (bn_int (lf (hhd l i)) 64)]) (hz_dec kX12_isRightHeader 90 rfl) co_X12_547 im_X12_middleBehind se_X12_middleBehind rfl hO3 h8 (by omega) (c_mmid hfr3.2.1 hE3 h8 hz hv6 (by omega) (by omega) hR3 hw5 hpl) rfl (by decide) ⟨Nat.le_refl _, Nat.le_refl _⟩ (Nat.le_of_ble_eq_true rfl) rfl (fun r9 z9 M4 hp9 => ?_)
    obtain ⟨rfl, rfl, f42, hM4⟩ := hp9
    have hm4 : mfr B [] [42] M3 M4 := hM4 ▸ (mfr.rf hfr3.2.1).upA (o := 42) rfl (by decide)
    have hFF4 := hFF3.mf hm4 (hM4 ▸ hE3.upA (by decide)) rfl rfl rfl
    clear hM4
    obtain ⟨hfr4, hE4, hR4, h374⟩ := id hFF4
    obtain ⟨fs4, hO4, hF4⟩ := id hfr4.2.1
    have hk4 := hk0.mf hfr4 rfl rfl
    have hN4 := hmn.2.1.mf hfr4 rfl
    have h784 : isA (fA M4 B 78) 0 l := by rw [fA_m hfr4 (by decide) rfl]; exact h78
    refine hz_icmp_gt (pc := 172) (tgt := 177) (hz_dec kX12_isRightHeader 91 rfl) (by decide) (fun h3 => ?_) (fun h3 => ?_)
    · skip
      have hkk : hhK en (hhd l i) p = true := decide_eq_true ⟨h3, by first | exact h2 | exact Classical.byContradiction h2⟩
      refine hz_aloadn (pc := 177) 3 (hz_dec kX12_isRightHeader 94 rfl) rfl ?_
      refine hz_get (pc := 178) (v := .ref (B + 38)) (hz_dec kX12_isRightHeader 95 rfl) fo_X12_125 hO4 h8 (by omega) (hF4.2 42 (by decide) (by decide)) ?_
      refine hz_iloadn (pc := 181) 6 (hz_dec kX12_isRightHeader 96 rfl) rfl ?_
      refine hz_iload (pc := 182) 0 (hz_dec kX12_isRightHeader 97 rfl) rfl ?_
      refine hz_iast (pc := 184) (j := c) (hz_dec kX12_isRightHeader 98 rfl) hE4.a38 (by omega) (by omega) rfl (by omega) (by decide) ?_
      refine hz_aloadn (pc := 185) 3 (hz_dec kX12_isRightHeader 99 rfl) rfl ?_
      refine hz_get (pc := 186) (v := .ref (B + 39)) (hz_dec kX12_isRightHeader 100 rfl) fo_X12_128 (hz_mne hO4 (by omega)) h8 (by omega) (hF4.2 43 (by decide) (by decide)) ?_
      refine hz_iloadn (pc := 189) 6 (hz_dec kX12_isRightHeader 101 rfl) rfl ?_
      refine hz_aloadn (pc := 190) 3 (hz_dec kX12_isRightHeader 102 rfl) rfl ?_
      refine hz_iloadn (pc := 191) 4 (hz_dec kX12_isRightHeader 103 rfl) rfl ?_
      refine hz_iload (pc := 192) 0 (hz_dec kX12_isRightHeader 104 rfl) rfl ?_
      have hmx : mfr B [] [38] M4 (va_up M4 (B + 38) (.inl (0, 16, .inl (upd (fA M4 B 38) c ((nI (rx (ksB S).length p))))))) := (mfr.rf hfr4.2.1).upA (o := 38) rfl (by decide)
      have hEx : mdE (va_up M4 (B + 38) (.inl (0, 16, .inl (upd (fA M4 B 38) c ((nI (rx (ksB S).length p))))))) B := hE4.upA (by decide)
      have hRx : rvX (fA (va_up M4 (B + 38) (.inl (0, 16, .inl (upd (fA M4 B 38) c ((nI (rx (ksB S).length p))))))) B) v (ksB S).length en := by
        have e38 : fA (va_up M4 (B + 38) (.inl (0, 16, .inl (upd (fA M4 B 38) c ((nI (rx (ksB S).length p))))))) B 38 = upd (fA M4 B 38) c (nI (rx (ksB S).length p)) := fA_of (va_up_self _ _ _)
        intro y hy
        have r := hR4 y hy
        rw [fA_m hmx (o := 26) (by decide) rfl, fA_m hmx (o := 27) (by decide) rfl, fA_m hmx (o := 28) (by decide) rfl, fA_m hmx (o := 29) (by decide) rfl, fA_m hmx (o := 39) (by decide) rfl, fA_m hmx (o := 40) (by decide) rfl, fA_m hmx (o := 41) (by decide) rfl, e38]
        refine ⟨r.1, fun hn => ?_⟩
        rw [upd_o (by omega)]
        exact r.2 hn
      refine hz_xV (pc := 194) (a := B) (As := [.int (nI v), .int (nI (rx (ksB S).length p))]) (st := [.int (nI c), .ref (B + 39)]) (hz_dec kX12_isRightHeader 105 rfl) co_X12_460 im_X12_heightOf se_X12_heightOf rfl (hz_mne hO4 (by omega)) h8 (by omega) (c_heightOf hmx.2.1 hEx h8 hz hv6 (by omega) (by omega) hRx hpl) rfl (by decide) ⟨Nat.le_refl _, Nat.le_refl _⟩ (Nat.le_of_ble_eq_true rfl) rfl ?_
      refine hz_iconst (pc := 197) (v := nI 1) (hz_dec kX12_isRightHeader 106 rfl) (by decide) ?_
      refine hz_addN (pc := 198) (hz_dec kX12_isRightHeader 107 rfl) ?_
      refine hz_iast (pc := 199) (j := c) (hz_dec kX12_isRightHeader 108 rfl) (hz_mne hE4.a39 (by omega)) (by omega) (by omega) rfl (by omega) (by decide) ?_
      refine hz_aloadn (pc := 200) 3 (hz_dec kX12_isRightHeader 109 rfl) rfl ?_
      refine hz_get (pc := 201) (v := .ref (B + 40)) (hz_dec kX12_isRightHeader 110 rfl) fo_X12_131 (hz_mne (hz_mne hO4 (by omega)) (by omega)) h8 (by omega) (hF4.2 44 (by decide) (by decide)) ?_
      refine hz_iloadn (pc := 204) 6 (hz_dec kX12_isRightHeader 111 rfl) rfl ?_
      refine hz_iload (pc := 205) 2 (hz_dec kX12_isRightHeader 112 rfl) rfl ?_
      refine hz_iast (pc := 207) (j := c) (hz_dec kX12_isRightHeader 113 rfl) (hz_mne (hz_mne hE4.a40 (by omega)) (by omega)) (by omega) (by omega) rfl (by omega) (by decide) ?_
      refine hz_aloadn (pc := 208) 3 (hz_dec kX12_isRightHeader 114 rfl) rfl ?_
      refine hz_get (pc := 209) (v := .ref (B + 41)) (hz_dec kX12_isRightHeader 115 rfl) fo_X12_134 (hz_mne (hz_mne (hz_mne hO4 (by omega)) (by omega)) (by omega)) h8 (by omega) (hF4.2 45 (by decide) (by decide)) ?_
      refine hz_iloadn (pc := 212) 6 (hz_dec kX12_isRightHeader 116 rfl) rfl ?_
      refine hz_iload (pc := 213) 1 (hz_dec kX12_isRightHeader 117 rfl) rfl ?_
      refine hz_iast (pc := 215) (j := c) (hz_dec kX12_isRightHeader 118 rfl) (hz_mne (hz_mne (hz_mne hE4.a41 (by omega)) (by omega)) (by omega)) (by omega) (by omega) rfl (by omega) (by decide) ?_
      refine hz_iconst (pc := 216) (v := nI 1) (hz_dec kX12_isRightHeader 119 rfl) (by decide) ?_
      have e9 := hhT_s hk hP hwk hkk
      have hm5 : mfr B [] [38, 39, 40, 41] M4 (va_up (va_up (va_up (va_up M4 (B + 38) (.inl (0, 16, .inl (upd (fA M4 B 38) c ((nI (rx (ksB S).length p))))))) (B + 39) (.inl (0, 16, .inl (upd (fA M4 B 39) c ((nI ((eH en p) + 1))))))) (B + 40) (.inl (0, 16, .inl (upd (fA M4 B 40) c ((bn_int (lf (hhd l i)) 64)))))) (B + 41) (.inl (0, 16, .inl (upd (fA M4 B 41) c ((bn_int (lf (hhd l i)) 68)))))) := ((((mfr.rf hfr4.2.1).upA (o := 38) rfl (by decide)).upA (o := 39) rfl (by decide)).upA (o := 40) rfl (by decide)).upA (o := 41) rfl (by decide)
      have hE5 : mdE (va_up (va_up (va_up (va_up M4 (B + 38) (.inl (0, 16, .inl (upd (fA M4 B 38) c ((nI (rx (ksB S).length p))))))) (B + 39) (.inl (0, 16, .inl (upd (fA M4 B 39) c ((nI ((eH en p) + 1))))))) (B + 40) (.inl (0, 16, .inl (upd (fA M4 B 40) c ((bn_int (lf (hhd l i)) 64)))))) (B + 41) (.inl (0, 16, .inl (upd (fA M4 B 41) c ((bn_int (lf (hhd l i)) 68)))))) B := (((hE4.upA (by decide)).upA (by decide)).upA (by decide)).upA (by decide)
      have hR5 : rvX (fA (va_up (va_up (va_up (va_up M4 (B + 38) (.inl (0, 16, .inl (upd (fA M4 B 38) c ((nI (rx (ksB S).length p))))))) (B + 39) (.inl (0, 16, .inl (upd (fA M4 B 39) c ((nI ((eH en p) + 1))))))) (B + 40) (.inl (0, 16, .inl (upd (fA M4 B 40) c ((bn_int (lf (hhd l i)) 64)))))) (B + 41) (.inl (0, 16, .inl (upd (fA M4 B 41) c ((bn_int (lf (hhd l i)) 68)))))) B) v (ksB S).length (en ++ [enN_ en (hhd l i) p]) := hR4.app hec (fA_m hm5 (by decide) rfl) (fA_m hm5 (by decide) rfl) (fA_m hm5 (by decide) rfl) (fA_m hm5 (by decide) rfl) (fA_of (hz_mne (hz_mne (hz_mne (va_up_self _ _ _) (by omega)) (by omega)) (by omega))) (fA_of (hz_mne (hz_mne (va_up_self _ _ _) (by omega)) (by omega))) (fA_of (hz_mne (va_up_self _ _ _) (by omega))) (fA_of (va_up_self _ _ _))
      have hA5 : isA (fA (va_up (va_up (va_up (va_up M4 (B + 38) (.inl (0, 16, .inl (upd (fA M4 B 38) c ((nI (rx (ksB S).length p))))))) (B + 39) (.inl (0, 16, .inl (upd (fA M4 B 39) c ((nI ((eH en p) + 1))))))) (B + 40) (.inl (0, 16, .inl (upd (fA M4 B 40) c ((bn_int (lf (hhd l i)) 64)))))) (B + 41) (.inl (0, 16, .inl (upd (fA M4 B 41) c ((bn_int (lf (hhd l i)) 68)))))) B 37) 0 (a ++ hhH (hhd l i)) := by rw [fA_m hm5 (by decide) rfl]; exact h374
      exact hz_zret (pc := 217) (hz_dec kX12_isRightHeader 120 rfl) rfl rfl ⟨by rw [e9]; rfl, rfl, fun q => (by rw [e9] at q; cases q), fun s2 q => by rw [e9] at q; cases q; exact ⟨hfr4.tr (hm5.mono rfl rfl), hE5, hR5, hA5⟩⟩
    · skip
      have e9 := hhT_f hk hP (Or.inr (decide_eq_false (fun q => h3 q.1)))
      refine hz_iconst (pc := 175) (v := nI 0) (hz_dec kX12_isRightHeader 92 rfl) (by decide) ?_
      exact hz_zret (pc := 176) (hz_dec kX12_isRightHeader 93 rfl) rfl rfl ⟨by rw [e9]; rfl, rfl, fun _ => hFF4.l, fun s2 q => by rw [e9] at q; cases q⟩
set_option maxHeartbeats 4000000 in
set_option maxRecDepth 100000 in
theorem c_ir_c {κ : hz_C} {z B v : Nat} (hv6 : v < 6) {M : hz_M} {S : ks_S} {l : by_L} (hk0 : md_k B M z) (hmn : mnB M B v (ksB S) (enB (ksB S)) (ksT S)) (hI : ksI S) (hl4 : l.length ≤ 4000) (h78 : isA (fA M B 78) 0 l) {n : Nat} (hn : n ≤ 16) (hnl : 80 * n = l.length) {i c : Nat} {en : List en_E} {b : Bool} {a : by_L} (hJI : hhI (ksB S) l i (en, b, a)) (hin : i < n) (hci : c ≤ i) (hec : en.length = (ksB S).length + c) (ha : a.length = 32 * c) (hk : ¬ blF (ksB S) (hhH (hhd l i)) < (ksB S).length) {M2 : hz_M} (hF : rhF M M2 B v (ksB S) en (a ++ hhH (hhd l i))) (hwk : wkS (hhd l i) = true) : hz_W κ xX12_isRightHeader 4 0 0 (fun r z2 M3 => some (.int (hz_b (hhT (ksB S) (hhd l i) (en, b, a)).isSome)) = r ∧ z = z2 ∧ (hhT (ksB S) (hhd l i) (en, b, a) = none → rhF M M3 B v (ksB S) en a) ∧ ∀ s2, hhT (ksB S) (hhd l i) (en, b, a) = some s2 → rhF M M3 B v (ksB S) s2.1 s2.2.2) 0 0 86 [(5, .int (bn_int (lf (hhd l i)) 68)), (4, .int (bn_int (lf (hhd l i)) 64)), (0, .ref B), (1, .int (nI v)), (2, .int (nI (80 * i))), (3, .int (nI c))] [] z M2 := by
  obtain ⟨-, -, -, h8, hz⟩ := id hk0
  obtain ⟨i1, i2, i3, i4, i5⟩ := id hI
  have htop := i1.top
  have hw5 : wfE en := hJI.2.1
  obtain ⟨hfr2, hE2, hR2, h372⟩ := id hF
  obtain ⟨fs2, hO2, hF2⟩ := id hfr2.2.1
  have hk2 := hk0.mf hfr2 rfl rfl
  have hN2 := hmn.2.1.mf hfr2 rfl
  have h782 : isA (fA M2 B 78) 0 l := by rw [fA_m hfr2 (by decide) rfl]; exact h78
  have hAi : isA (fA M2 B 78) (80 * i) (hhd l i) := by have q := isA_sub (i := 80 * i) (n := 80) h782 (by omega); rw [Nat.zero_add] at q; exact q
  have hAp : isA (fA M2 B 78) (80 * i) (subL (hhd l i) 0 32) := by have q := isA_sub (i := 0) (n := 32) hAi (by rw [show (hhd l i).length = 80 from subL_len _ _ _]; decide); rw [Nat.add_zero] at q; exact q
  obtain ⟨-, -, c0, d1, d2, d3, d4, d5⟩ := id hJI
  simp only at d2 d3 d4 d5
  refine hz_aloadn (pc := 86) 2 (hz_dec kX12_isRightHeader 45 rfl) rfl ?_
  refine hz_iloadn (pc := 87) 3 (hz_dec kX12_isRightHeader 46 rfl) rfl ?_
  refine hz_aloadn (pc := 88) 2 (hz_dec kX12_isRightHeader 47 rfl) rfl ?_
  refine hz_get (pc := 89) (v := .ref (B + 78)) (hz_dec kX12_isRightHeader 48 rfl) fo_X12_255 hO2 h8 (by omega) (hF2.2 91 (by decide) (by decide)) ?_
  refine hz_iloadn (pc := 92) 4 (hz_dec kX12_isRightHeader 49 rfl) rfl ?_
  refine hz_xV (pc := 93) (a := B) (As := [.int (nI v), .ref (B + 78), .int (nI (80 * i))]) (st := []) (hz_dec kX12_isRightHeader 50 rfl) co_X12_531 im_X12_findBlock se_X12_findBlock rfl hO2 h8 (by omega) (c_mfB hfr2.2.1 hE2 h8 hz hv6 (by omega) hN2 hE2.a78 (by omega) (by omega) (by decide) hAp (subL_len _ _ _) (by omega)) rfl (by decide) ⟨Nat.le_refl _, Nat.le_refl _⟩ (Nat.le_of_ble_eq_true rfl) rfl ?_
  by_cases cp : blF (ksB S) (subL (hhd l i) 0 32) < (ksB S).length
  · skip
    refine hz_eqi (pc := 96) (show _ = nI (rx (ksB S).length (blF (ksB S) (subL (hhd l i) 0 32))) by rw [rx_lt cp]; exact if_pos cp) ?_
    have hrx : rx (ksB S).length (blF (ksB S) (subL (hhd l i) 0 32)) < 2000 := by rw [rx_lt cp]; omega
    refine hz_istore (pc := 96) (i := 6) (lo2 := [(6, .int (nI (rx (ksB S).length (blF (ksB S) (subL (hhd l i) 0 32))))), (5, .int (bn_int (lf (hhd l i)) 68)), (4, .int (bn_int (lf (hhd l i)) 64)), (0, .ref B), (1, .int (nI v)), (2, .int (nI (80 * i))), (3, .int (nI c))]) (hz_dec kX12_isRightHeader 51 rfl) (by decide) rfl ?_
    refine hz_iload (pc := 98) 0 (hz_dec kX12_isRightHeader 52 rfl) rfl ?_
    refine hz_z_ge (pc := 100) (tgt := 146) (hz_dec kX12_isRightHeader 53 rfl) (by decide) (by omega) ?_
    refine hz_pick (pc := 146) [0, 1, 2, 3, 4, 5, 6] rfl ?_
    exact c_ir_p hv6 hk0 hmn hI hl4 h78 hn hnl hJI hin hci hec ha hk hF (if_pos cp) hwk
  · skip
    refine hz_eqi (pc := 96) (show _ = (-1 : Int32) from if_neg cp) ?_
    refine hz_istore (pc := 96) (i := 6) (lo2 := [(6, .int (-1)), (5, .int (bn_int (lf (hhd l i)) 68)), (4, .int (bn_int (lf (hhd l i)) 64)), (0, .ref B), (1, .int (nI v)), (2, .int (nI (80 * i))), (3, .int (nI c))]) (hz_dec kX12_isRightHeader 51 rfl) (by decide) rfl ?_
    refine hz_iload (pc := 98) 0 (hz_dec kX12_isRightHeader 52 rfl) rfl ?_
    refine hz_if_ge (pc := 100) (tgt := 146) (hz_dec kX12_isRightHeader 53 rfl) (by decide) (fun h1 => ?_) (fun h1 => ?_)
    · skip
      exact absurd h1 (by decide)
    · skip
      refine hz_iloadn (pc := 103) 5 (hz_dec kX12_isRightHeader 54 rfl) rfl ?_
      refine hz_z_le (pc := 104) (tgt := 146) (hz_dec kX12_isRightHeader 55 rfl) (by decide) (by omega) (fun h2 => ?_) (fun h2 => ?_)
      · skip
        refine hz_pick (pc := 146) [0, 1, 2, 3, 4, 5, 6] rfl ?_
        exact c_ir_n hv6 hk0 hmn hI hl4 h78 hn hnl hJI hin hci hec ha hk hF.l (by unfold hhP; rw [if_neg cp]; exact if_neg (fun q => absurd (d4 q.1).2.1 (by omega)))
      · skip
        refine hz_aloadn (pc := 107) 3 (hz_dec kX12_isRightHeader 56 rfl) rfl ?_
        refine hz_aloadn (pc := 108) 3 (hz_dec kX12_isRightHeader 57 rfl) rfl ?_
        refine hz_get (pc := 109) (v := .ref (B + 78)) (hz_dec kX12_isRightHeader 58 rfl) fo_X12_255 hO2 h8 (by omega) (hF2.2 91 (by decide) (by decide)) ?_
        refine hz_iloadn (pc := 112) 5 (hz_dec kX12_isRightHeader 59 rfl) rfl ?_
        refine hz_bipush (pc := 113) (v := nI 80) (hz_dec kX12_isRightHeader 60 rfl) (by decide) ?_
        refine hz_subN (pc := 115) (hz_dec kX12_isRightHeader 61 rfl) (by omega) ?_
        refine hz_bipush (pc := 116) (v := nI 80) (hz_dec kX12_isRightHeader 62 rfl) (by decide) ?_
        refine hz_callV (pc := 118) (a := B) (As := [.ref (B + 78), .int (nI ((80 * i) - 80)), .int (nI 80)]) (st := []) (hz_dec kX12_isRightHeader 63 rfl) co_X12_412 im_X12_twiceOf se_X12_twiceOf rfl hO2 h8 (by omega) (c_twiceOf (at_ := 80 * i - 80) (n := 80) hk2 hE2.s hE2.a78 (by omega) (by omega) (by decide) (by omega)) rfl (by decide) ⟨Nat.le_refl _, Nat.le_refl _⟩ (Nat.le_of_ble_eq_true rfl) rfl (fun r9 z9 M3 hp9 => ?_)
        obtain ⟨rfl, rfl, hf3, hs3, dd3, hd3, hdc3⟩ := hp9
        have hm3 : mfr B [] [3, 4, 5, 7] M2 M3 := mfr.ofl hfr2.2.1 hf3 rfl
        have hFF3 := hF.mf hm3 (hE2.hs hm3 hs3 rfl) rfl rfl rfl
        obtain ⟨hfr3, hE3, hR3, h373⟩ := id hFF3
        obtain ⟨fs3, hO3, hF3⟩ := id hfr3.2.1
        have hk3 := hk0.mf hfr3 rfl rfl
        have hN3 := hmn.2.1.mf hfr3 rfl
        have h783 : isA (fA M3 B 78) 0 l := by rw [fA_m hfr3 (by decide) rfl]; exact h78
        have hAq : isA (fA M2 B 78) (80 * i - 80) (hhd l (i - 1)) := by have q := isA_sub (i := 80 * (i - 1)) (n := 80) h782 (by omega); rw [Nat.zero_add, show 80 * (i - 1) = 80 * i - 80 by omega] at q; unfold hhd; rw [show 80 * (i - 1) = 80 * i - 80 by omega]; exact q
        rw [shS_of hAq (subL_len _ _ _)] at hdc3
        have hdA : isA dd3 0 (hhH (hhd l (i - 1))) := isA_dg (fun j hj => by rw [Nat.zero_add]; exact hdc3 j hj)
        have hAp3 : isA (fA M3 B 78) (80 * i) (subL (hhd l i) 0 32) := by rw [fA_m hm3 (by decide) rfl]; exact hAp
        refine hz_aloadn (pc := 121) 3 (hz_dec kX12_isRightHeader 64 rfl) rfl ?_
        refine hz_aloadn (pc := 122) 3 (hz_dec kX12_isRightHeader 65 rfl) rfl ?_
        refine hz_get (pc := 123) (v := .ref (B + 78)) (hz_dec kX12_isRightHeader 66 rfl) fo_X12_255 hO3 h8 (by omega) (hF3.2 91 (by decide) (by decide)) ?_
        refine hz_iloadn (pc := 126) 5 (hz_dec kX12_isRightHeader 67 rfl) rfl ?_
        refine hz_xV (pc := 127) (a := B) (As := [.ref (B + 78), .int (nI (80 * i))]) (st := []) (hz_dec kX12_isRightHeader 68 rfl) co_X12_538 im_X12_isDigest se_X12_isDigest rfl hO3 h8 (by omega) (c_isDg hO3 hF3 h8 hz hd3 hE3.a78 (by omega) (by omega) (by decide) (by omega)) rfl (by decide) ⟨Nat.le_refl _, Nat.le_refl _⟩ (Nat.le_of_ble_eq_true rfl) rfl ?_
        refine hz_eqi (pc := 130) (show _ = hz_b (smS (hhH (hhd l (i - 1))) (subL (hhd l i) 0 32)) by rw [smS_of hdA hAp3 (hhH_len _) (subL_len _ _ _)]) ?_
        refine hz_if_eq (pc := 130) (tgt := 146) (hz_dec kX12_isRightHeader 69 rfl) (by decide) (fun h3 => ?_) (fun h3 => ?_)
        · skip
          refine hz_pick (pc := 146) [0, 1, 2, 3, 4, 5, 6] rfl ?_
          exact c_ir_n hv6 hk0 hmn hI hl4 h78 hn hnl hJI hin hci hec ha hk hFF3.l (by unfold hhP; rw [if_neg cp]; exact if_neg (fun q => of_decide_eq_false (hz_b0 h3) ((d4 q.1).2.2.symm.trans q.2.symm)))
        · skip
          have hq := of_decide_eq_true (hz_b1 h3)
          refine hz_iloadn (pc := 133) 6 (hz_dec kX12_isRightHeader 70 rfl) rfl ?_
          refine hz_z_le (pc := 134) (tgt := 146) (hz_dec kX12_isRightHeader 71 rfl) (by decide) (by omega) (fun h4 => ?_) (fun h4 => ?_)
          · skip
            refine hz_pick (pc := 146) [0, 1, 2, 3, 4, 5, 6] rfl ?_
            exact c_ir_n hv6 hk0 hmn hI hl4 h78 hn hnl hJI hin hci hec ha hk hFF3.l (by unfold hhP; rw [if_neg cp]; exact if_neg (fun q => absurd (d4 q.1).1 (by omega)))
          · skip
            have hbt : b = true := by cases hb : b with | true => rfl | false => exact absurd (d5 hb) (fun q => by rcases q with q | q; omega; rw [hq] at q; exact cp q)
            refine hz_sipush (pc := 137) (v := nI 1000) (hz_dec kX12_isRightHeader 72 rfl) (by decide) ?_
            refine hz_iloadn (pc := 140) 6 (hz_dec kX12_isRightHeader 73 rfl) rfl ?_
            refine hz_addN (pc := 141) (hz_dec kX12_isRightHeader 74 rfl) ?_
            refine hz_iconst (pc := 142) (v := nI 1) (hz_dec kX12_isRightHeader 75 rfl) (by decide) ?_
            refine hz_subN (pc := 143) (hz_dec kX12_isRightHeader 76 rfl) (by omega) ?_
            refine hz_eqi (pc := 144) (show _ = nI (rx (ksB S).length (en.length - 1)) by unfold rx; rw [if_neg (by omega), hec, show 1000 + ((ksB S).length + c - 1 - (ksB S).length) = 1000 + c - 1 by omega]) ?_
            refine hz_istore (pc := 144) (i := 6) (lo2 := [(6, .int (nI (rx (ksB S).length (en.length - 1)))), (5, .int (bn_int (lf (hhd l i)) 68)), (4, .int (bn_int (lf (hhd l i)) 64)), (0, .ref B), (1, .int (nI v)), (2, .int (nI (80 * i))), (3, .int (nI c))]) (hz_dec kX12_isRightHeader 77 rfl) (by decide) rfl ?_
            refine hz_pick (pc := 146) [0, 1, 2, 3, 4, 5, 6] rfl ?_
            exact c_ir_p hv6 hk0 hmn hI hl4 h78 hn hnl hJI hin hci hec ha hk hFF3 (by unfold hhP; rw [if_neg cp]; exact if_pos ⟨hbt, hq.symm.trans (d4 hbt).2.2.symm⟩) hwk
set_option maxHeartbeats 4000000 in
set_option maxRecDepth 100000 in
theorem c_ir_b {κ : hz_C} {z B v : Nat} (hv6 : v < 6) {M : hz_M} {S : ks_S} {l : by_L} (hk0 : md_k B M z) (hmn : mnB M B v (ksB S) (enB (ksB S)) (ksT S)) (hI : ksI S) (hl4 : l.length ≤ 4000) (h78 : isA (fA M B 78) 0 l) {n : Nat} (hn : n ≤ 16) (hnl : 80 * n = l.length) {i c : Nat} {en : List en_E} {b : Bool} {a : by_L} (hJI : hhI (ksB S) l i (en, b, a)) (hin : i < n) (hci : c ≤ i) (hec : en.length = (ksB S).length + c) (ha : a.length = 32 * c) (hk : ¬ blF (ksB S) (hhH (hhd l i)) < (ksB S).length) {M2 : hz_M} (hF : rhF M M2 B v (ksB S) en (a ++ hhH (hhd l i))) (h5 : ∀ j, j < 32 → fA M2 B 5 j = sh_dg (sh_2 (shS (hhd l i))) j) : hz_W κ xX12_isRightHeader 4 0 0 (fun r z2 M3 => some (.int (hz_b (hhT (ksB S) (hhd l i) (en, b, a)).isSome)) = r ∧ z = z2 ∧ (hhT (ksB S) (hhd l i) (en, b, a) = none → rhF M M3 B v (ksB S) en a) ∧ ∀ s2, hhT (ksB S) (hhd l i) (en, b, a) = some s2 → rhF M M3 B v (ksB S) s2.1 s2.2.2) 0 0 61 [(5, .int (bn_int (lf (hhd l i)) 68)), (4, .int (bn_int (lf (hhd l i)) 64)), (0, .ref B), (1, .int (nI v)), (2, .int (nI (80 * i))), (3, .int (nI c))] [] z M2 := by
  obtain ⟨-, -, -, h8, hz⟩ := id hk0
  obtain ⟨i1, i2, i3, i4, i5⟩ := id hI
  have htop := i1.top
  have hw5 : wfE en := hJI.2.1
  obtain ⟨hfr2, hE2, hR2, h372⟩ := id hF
  obtain ⟨fs2, hO2, hF2⟩ := id hfr2.2.1
  have hk2 := hk0.mf hfr2 rfl rfl
  have hN2 := hmn.2.1.mf hfr2 rfl
  have h782 : isA (fA M2 B 78) 0 l := by rw [fA_m hfr2 (by decide) rfl]; exact h78
  refine hz_iload (pc := 61) 1 (hz_dec kX12_isRightHeader 33 rfl) rfl ?_
  refine hz_if_lt (pc := 63) (tgt := 84) (hz_dec kX12_isRightHeader 34 rfl) (by decide) (fun h1 => ?_) (fun h1 => ?_)
  · skip
    have e9 := hhT_tm hJI hk h1
    refine hz_iconst (pc := 84) (v := nI 0) (hz_dec kX12_isRightHeader 43 rfl) (by decide) ?_
    exact hz_zret (pc := 85) (hz_dec kX12_isRightHeader 44 rfl) rfl rfl ⟨by rw [e9]; rfl, rfl, fun _ => hF.l, fun s2 q => by rw [e9] at q; cases q⟩
  · skip
    refine hz_aloadn (pc := 66) 2 (hz_dec kX12_isRightHeader 35 rfl) rfl ?_
    refine hz_iload (pc := 67) 0 (hz_dec kX12_isRightHeader 36 rfl) rfl ?_
    refine hz_callV (pc := 69) (a := B) (As := [.int (bn_int (lf (hhd l i)) 68)]) (st := []) (hz_dec kX12_isRightHeader 37 rfl) co_X12_535 im_X12_areRight se_X12_areRight rfl hO2 h8 (by omega) (c_areRight hO2 hF2 h8 hz hE2.t) rfl (by decide) ⟨Nat.le_refl _, Nat.le_refl _⟩ (Nat.le_of_ble_eq_true rfl) rfl (fun r9 z9 M3 hp9 => ?_)
    obtain ⟨rfl, rfl, hf3, ht3, -⟩ := hp9
    have hm3 : mfr B [] [10, 11] M2 M3 := mfr.ofl hfr2.2.1 hf3 rfl
    have hFF3 := hF.mf hm3 (hE2.ht hm3 ht3 rfl) rfl rfl rfl
    obtain ⟨hfr3, hE3, hR3, h373⟩ := id hFF3
    obtain ⟨fs3, hO3, hF3⟩ := id hfr3.2.1
    have hk3 := hk0.mf hfr3 rfl rfl
    have hN3 := hmn.2.1.mf hfr3 rfl
    have h783 : isA (fA M3 B 78) 0 l := by rw [fA_m hfr3 (by decide) rfl]; exact h78
    have h53 : M3 (B + 5) = .inl (1, 32, .inl (fA M2 B 5)) := (hm3.at 5 (by decide) rfl).trans hE2.a5
    refine hz_if_eq (pc := 72) (tgt := 84) (hz_dec kX12_isRightHeader 38 rfl) (by decide) (fun h2 => ?_) (fun h2 => ?_)
    · skip
      have e9 := hhT_w (s := (en, b, a)) hk (show wkS (hhd l i) = false by unfold wkS; rw [hz_b0 h2]; rfl)
      refine hz_iconst (pc := 84) (v := nI 0) (hz_dec kX12_isRightHeader 43 rfl) (by decide) ?_
      exact hz_zret (pc := 85) (hz_dec kX12_isRightHeader 44 rfl) rfl rfl ⟨by rw [e9]; rfl, rfl, fun _ => hFF3.l, fun s2 q => by rw [e9] at q; cases q⟩
    · skip
      have hr := hz_b1 h2
      have hrb := tgR_b hr
      refine hz_aloadn (pc := 75) 2 (hz_dec kX12_isRightHeader 39 rfl) rfl ?_
      refine hz_iload (pc := 76) 0 (hz_dec kX12_isRightHeader 40 rfl) rfl ?_
      refine hz_callV (pc := 78) (a := B) (As := [.int (bn_int (lf (hhd l i)) 68)]) (st := []) (hz_dec kX12_isRightHeader 41 rfl) co_X12_445 im_X12_meets se_X12_meets rfl hO3 h8 (by omega) (c_meets hO3 hF3 h8 hz hE3.t h53 h5 (by omega) (by omega)) rfl (by decide) ⟨Nat.le_refl _, Nat.le_refl _⟩ (Nat.le_of_ble_eq_true rfl) rfl (fun r9 z9 M4 hp9 => ?_)
      obtain ⟨rfl, rfl, hf4, ht4, -⟩ := hp9
      have hm4 : mfr B [] [10, 11] M3 M4 := mfr.ofl hfr3.2.1 hf4 rfl
      have hFF4 := hFF3.mf hm4 (hE3.ht hm4 ht4 rfl) rfl rfl rfl
      refine hz_if_ne (pc := 81) (tgt := 86) (hz_dec kX12_isRightHeader 42 rfl) (by decide) (fun h3 => ?_) (fun h3 => ?_)
      · skip
        exact c_ir_c hv6 hk0 hmn hI hl4 h78 hn hnl hJI hin hci hec ha hk hFF4 (show wkS (hhd l i) = true by unfold wkS; rw [hr, hz_b1 h3]; rfl)
      · skip
        have e9 := hhT_w (s := (en, b, a)) hk (show wkS (hhd l i) = false by unfold wkS; rw [hr, hz_b0 h3]; rfl)
        refine hz_iconst (pc := 84) (v := nI 0) (hz_dec kX12_isRightHeader 43 rfl) (by decide) ?_
        exact hz_zret (pc := 85) (hz_dec kX12_isRightHeader 44 rfl) rfl rfl ⟨by rw [e9]; rfl, rfl, fun _ => hFF4.l, fun s2 q => by rw [e9] at q; cases q⟩
set_option maxHeartbeats 4000000 in
set_option maxRecDepth 100000 in
theorem c_ir_a {κ : hz_C} {z B v : Nat} (hv6 : v < 6) {M : hz_M} {S : ks_S} {l : by_L} (hk0 : md_k B M z) (hmn : mnB M B v (ksB S) (enB (ksB S)) (ksT S)) (hI : ksI S) (hl4 : l.length ≤ 4000) (h78 : isA (fA M B 78) 0 l) {n : Nat} (hn : n ≤ 16) (hnl : 80 * n = l.length) {i c : Nat} {en : List en_E} {b : Bool} {a : by_L} (hJI : hhI (ksB S) l i (en, b, a)) (hin : i < n) (hci : c ≤ i) (hec : en.length = (ksB S).length + c) (ha : a.length = 32 * c) (hk : ¬ blF (ksB S) (hhH (hhd l i)) < (ksB S).length) {M1 : hz_M} (hF1 : rhF M M1 B v (ksB S) en a) (h5 : ∀ j, j < 32 → fA M1 B 5 j = sh_dg (sh_2 (shS (hhd l i))) j) : ∀ k j M2, k = 32 - j → j ≤ 32 → rhF M M2 B v (ksB S) en a → fA M2 B 5 = fA M1 B 5 → (∀ q, q < j → fA M2 B 37 (32 * c + q) = fA M1 B 5 q) → hz_W κ xX12_isRightHeader 4 0 0 (fun r z2 M3 => some (.int (hz_b (hhT (ksB S) (hhd l i) (en, b, a)).isSome)) = r ∧ z = z2 ∧ (hhT (ksB S) (hhd l i) (en, b, a) = none → rhF M M3 B v (ksB S) en a) ∧ ∀ s2, hhT (ksB S) (hhd l i) (en, b, a) = some s2 → rhF M M3 B v (ksB S) s2.1 s2.2.2) 0 0 29 [(6, .int (nI j)), (5, .int (bn_int (lf (hhd l i)) 68)), (4, .int (bn_int (lf (hhd l i)) 64)), (0, .ref B), (1, .int (nI v)), (2, .int (nI (80 * i))), (3, .int (nI c))] [] z M2 := by
  intro k
  induction k using Nat.strongRecOn with
  | ind k ih =>
  intro j M2 hk9 hj hF h55 h3q
  obtain ⟨-, -, -, h8, hz⟩ := id hk0
  obtain ⟨i1, i2, i3, i4, i5⟩ := id hI
  have htop := i1.top
  have hw5 : wfE en := hJI.2.1
  obtain ⟨hfr2, hE2, hR2, h372⟩ := id hF
  obtain ⟨fs2, hO2, hF2⟩ := id hfr2.2.1
  have hk2 := hk0.mf hfr2 rfl rfl
  have hN2 := hmn.2.1.mf hfr2 rfl
  have h782 : isA (fA M2 B 78) 0 l := by rw [fA_m hfr2 (by decide) rfl]; exact h78
  refine hz_bytes hE2.a5 (by omega) (by omega) (fun hby => ?_)
  refine hz_iload (pc := 29) 0 (hz_dec kX12_isRightHeader 16 rfl) rfl ?_
  refine hz_bipush (pc := 31) (v := nI 32) (hz_dec kX12_isRightHeader 17 rfl) (by decide) ?_
  refine hz_n_ge (pc := 33) (tgt := 61) (hz_dec kX12_isRightHeader 18 rfl) (by decide) (by omega) (by omega) (fun h1 => ?_) (fun h1 => ?_)
  · skip
    have e : j = 32 := by omega
    refine hz_pick (pc := 61) [1, 2, 3, 4, 5, 6] rfl ?_
    refine c_ir_b hv6 hk0 hmn hI hl4 h78 hn hnl hJI hin hci hec ha hk ⟨hfr2, hE2, hR2, isA_app h372 (fun q hq => ?_)⟩ (fun q hq => by rw [h55]; exact h5 q hq)
    rw [hhH_len] at hq
    rw [Nat.zero_add, ha, h3q q (by omega), h5 q hq]
    unfold hhH dgS
    rw [lf_cutL hq, Nat.zero_add]
  · skip
    refine hz_aloadn (pc := 36) 3 (hz_dec kX12_isRightHeader 19 rfl) rfl ?_
    refine hz_get (pc := 37) (v := .ref (B + 37)) (hz_dec kX12_isRightHeader 20 rfl) fo_X12_122 hO2 h8 (by omega) (hF2.2 41 (by decide) (by decide)) ?_
    refine hz_bipush (pc := 40) (v := nI 32) (hz_dec kX12_isRightHeader 21 rfl) (by decide) ?_
    refine hz_iloadn (pc := 42) 6 (hz_dec kX12_isRightHeader 22 rfl) rfl ?_
    refine hz_mulN (pc := 43) (hz_dec kX12_isRightHeader 23 rfl) ?_
    refine hz_iload (pc := 44) 0 (hz_dec kX12_isRightHeader 24 rfl) rfl ?_
    refine hz_addN (pc := 46) (hz_dec kX12_isRightHeader 25 rfl) ?_
    refine hz_aloadn (pc := 47) 3 (hz_dec kX12_isRightHeader 26 rfl) rfl ?_
    refine hz_get (pc := 48) (v := .ref (B + 5)) (hz_dec kX12_isRightHeader 27 rfl) fo_X12_22 hO2 h8 (by omega) (hF2.2 6 (by decide) (by decide)) ?_
    refine hz_iload (pc := 51) 0 (hz_dec kX12_isRightHeader 28 rfl) rfl ?_
    refine hz_bald (pc := 53) (j := j) (hz_dec kX12_isRightHeader 29 rfl) hE2.a5 (by omega) (by omega) rfl (by omega) (by decide) ?_
    refine hz_bast (pc := 54) (j := (32 * c) + j) (hz_dec kX12_isRightHeader 30 rfl) hE2.a37 (by omega) (by omega) rfl (by omega) (by decide) ?_
    refine hz_incN (pc := 55) (i := 6) (lo2 := [(6, .int (nI (j + 1))), (5, .int (bn_int (lf (hhd l i)) 68)), (4, .int (bn_int (lf (hhd l i)) 64)), (0, .ref B), (1, .int (nI v)), (2, .int (nI (80 * i))), (3, .int (nI c))]) 0 (hz_dec kX12_isRightHeader 31 rfl) rfl (by decide) rfl ?_
    refine hz_goto (pc := 58) (tgt := 29) (hz_dec kX12_isRightHeader 32 rfl) (by decide) ?_
    refine hz_pick (pc := 29) [0, 1, 2, 3, 4, 5, 6] rfl ?_
    have hm3 : mfr B [] [37] M2 (va_up M2 (B + 37) (.inl (1, 512, .inl (upd (fA M2 B 37) ((32 * c) + j) (((fA M2 B 5) j).toInt8.toInt32))))) := (mfr.rf hfr2.2.1).upA (o := 37) rfl (by decide)
    have hE3 : mdE (va_up M2 (B + 37) (.inl (1, 512, .inl (upd (fA M2 B 37) ((32 * c) + j) (((fA M2 B 5) j).toInt8.toInt32))))) B := hE2.upA (by decide)
    have e37 := fA_of (B := B) (va_up_self M2 (B + 37) (.inl (1, 512, .inl (upd (fA M2 B 37) ((32 * c) + j) ((fA M2 B 5 j).toInt8.toInt32)))))
    refine ih (32 - (j + 1)) (by omega) (j + 1) _ rfl (by omega) ⟨hfr2.tr (hm3.mono rfl rfl), hE3, hR2.mf hm3 rfl, ?_⟩ ((fA_m hm3 (by decide) rfl).trans h55) ?_
    · rw [e37]
      intro q hq
      rw [upd_o (by omega)]
      exact h372 q hq
    · intro q hq
      rw [e37]
      rcases (show q = j ∨ q < j by omega) with e | e
      · rw [e, upd_s, hby _ (by omega), h55]
      · rw [upd_o (by omega)]; exact h3q q e
set_option maxHeartbeats 4000000 in
set_option maxRecDepth 100000 in
theorem c_irH {κ : hz_C} {z B v : Nat} (hv6 : v < 6) {M : hz_M} {S : ks_S} {l : by_L} (hk0 : md_k B M z) (hmn : mnB M B v (ksB S) (enB (ksB S)) (ksT S)) (hI : ksI S) (hl4 : l.length ≤ 4000) (h78 : isA (fA M B 78) 0 l) {n : Nat} (hn : n ≤ 16) (hnl : 80 * n = l.length) {i c : Nat} {en : List en_E} {b : Bool} {a : by_L} (hJI : hhI (ksB S) l i (en, b, a)) (hin : i < n) (hci : c ≤ i) (hec : en.length = (ksB S).length + c) (ha : a.length = 32 * c) (hk : ¬ blF (ksB S) (hhH (hhd l i)) < (ksB S).length) {M2 : hz_M} (hF : rhF M M2 B v (ksB S) en a) (h5 : ∀ j, j < 32 → fA M2 B 5 j = sh_dg (sh_2 (shS (hhd l i))) j) : hz_Mt κ xX12_isRightHeader 4 0 0 [.ref B, .int (nI v), .int (nI (80 * i)), .int (nI c)] z M2 (fun r z2 M3 => some (.int (hz_b (hhT (ksB S) (hhd l i) (en, b, a)).isSome)) = r ∧ z = z2 ∧ (hhT (ksB S) (hhd l i) (en, b, a) = none → rhF M M3 B v (ksB S) en a) ∧ ∀ s2, hhT (ksB S) (hhd l i) (en, b, a) = some s2 → rhF M M3 B v (ksB S) s2.1 s2.2.2) := by
  refine hz_ent (lo := [(0, .ref B), (1, .int (nI v)), (2, .int (nI (80 * i))), (3, .int (nI c))]) (by decide) (Nat.le_of_ble_eq_true rfl) rfl ?_
  obtain ⟨-, -, -, h8, hz⟩ := id hk0
  obtain ⟨i1, i2, i3, i4, i5⟩ := id hI
  have htop := i1.top
  have hw5 : wfE en := hJI.2.1
  obtain ⟨hfr2, hE2, hR2, h372⟩ := id hF
  obtain ⟨fs2, hO2, hF2⟩ := id hfr2.2.1
  have hk2 := hk0.mf hfr2 rfl rfl
  have hN2 := hmn.2.1.mf hfr2 rfl
  have h782 : isA (fA M2 B 78) 0 l := by rw [fA_m hfr2 (by decide) rfl]; exact h78
  have hAi : isA (fA M2 B 78) (80 * i) (hhd l i) := by have q := isA_sub (i := 80 * i) (n := 80) h782 (by omega); rw [Nat.zero_add] at q; exact q
  have hHl : (hhd l i).length = 80 := subL_len _ _ _
  refine hz_aloadn (pc := 0) 0 (hz_dec kX12_isRightHeader 0 rfl) rfl ?_
  refine hz_get (pc := 1) (v := .ref (B + 78)) (hz_dec kX12_isRightHeader 1 rfl) fo_X12_255 hO2 h8 (by omega) (hF2.2 91 (by decide) (by decide)) ?_
  refine hz_iloadn (pc := 4) 2 (hz_dec kX12_isRightHeader 2 rfl) rfl ?_
  refine hz_bipush (pc := 5) (v := nI 64) (hz_dec kX12_isRightHeader 3 rfl) (by decide) ?_
  refine hz_addN (pc := 7) (hz_dec kX12_isRightHeader 4 rfl) ?_
  refine hz_xS (pc := 8) (As := [.ref (B + 78), .int (nI ((80 * i) + 64))]) (st := []) (hz_dec kX12_isRightHeader 5 rfl) co_X12_376 sc_X12_intAt (c_intAt hE2.a78 (by omega) (by omega) (by decide) (by omega)) rfl (by decide) ⟨Nat.le_refl _, Nat.le_refl _⟩ (Nat.le_of_ble_eq_true rfl) rfl ?_
  refine hz_eqi (pc := 11) (int_of hAi (by omega)) ?_
  refine hz_istore (pc := 11) (i := 4) (lo2 := [(4, .int (bn_int (lf (hhd l i)) 64)), (0, .ref B), (1, .int (nI v)), (2, .int (nI (80 * i))), (3, .int (nI c))]) (hz_dec kX12_isRightHeader 6 rfl) (by decide) rfl ?_
  refine hz_aloadn (pc := 13) 1 (hz_dec kX12_isRightHeader 7 rfl) rfl ?_
  refine hz_get (pc := 14) (v := .ref (B + 78)) (hz_dec kX12_isRightHeader 8 rfl) fo_X12_255 hO2 h8 (by omega) (hF2.2 91 (by decide) (by decide)) ?_
  refine hz_iloadn (pc := 17) 3 (hz_dec kX12_isRightHeader 9 rfl) rfl ?_
  refine hz_bipush (pc := 18) (v := nI 68) (hz_dec kX12_isRightHeader 10 rfl) (by decide) ?_
  refine hz_addN (pc := 20) (hz_dec kX12_isRightHeader 11 rfl) ?_
  refine hz_xS (pc := 21) (As := [.ref (B + 78), .int (nI ((80 * i) + 68))]) (st := []) (hz_dec kX12_isRightHeader 12 rfl) co_X12_376 sc_X12_intAt (c_intAt hE2.a78 (by omega) (by omega) (by decide) (by omega)) rfl (by decide) ⟨Nat.le_refl _, Nat.le_refl _⟩ (Nat.le_of_ble_eq_true rfl) rfl ?_
  refine hz_eqi (pc := 24) (int_of hAi (by omega)) ?_
  refine hz_istore (pc := 24) (i := 5) (lo2 := [(5, .int (bn_int (lf (hhd l i)) 68)), (4, .int (bn_int (lf (hhd l i)) 64)), (0, .ref B), (1, .int (nI v)), (2, .int (nI (80 * i))), (3, .int (nI c))]) (hz_dec kX12_isRightHeader 13 rfl) (by decide) rfl ?_
  refine hz_iconst (pc := 26) (v := nI 0) (hz_dec kX12_isRightHeader 14 rfl) (by decide) ?_
  refine hz_istore (pc := 27) (i := 6) (lo2 := [(6, .int (nI 0)), (5, .int (bn_int (lf (hhd l i)) 68)), (4, .int (bn_int (lf (hhd l i)) 64)), (0, .ref B), (1, .int (nI v)), (2, .int (nI (80 * i))), (3, .int (nI c))]) (hz_dec kX12_isRightHeader 15 rfl) (by decide) rfl ?_
  refine hz_pick (pc := 29) [0, 1, 2, 3, 4, 5, 6] rfl ?_
  exact c_ir_a hv6 hk0 hmn hI hl4 h78 hn hnl hJI hin hci hec ha hk hF h5 32 0 M2 rfl (by omega) hF rfl (fun q hq => absurd hq (by omega))
