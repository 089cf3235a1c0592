/-! the reference: receive -/
theorem rvX.mh {M M2 : hz_M} {B v nb : Nat} {en : List en_E} {ks os : List Nat} (h : rvX (fA M B) v nb en) (hl : en.length ≤ nb) (f : mfr B ks os M M2) (h26 : os.elem 26 = false) (h27 : os.elem 27 = false) (h28 : os.elem 28 = false) (h29 : os.elem 29 = false) : rvX (fA M2 B) v nb en := by
  intro y hy
  have r := h y hy
  rw [fA_m f (o := 26) (by decide) h26, fA_m f (o := 27) (by decide) h27, fA_m f (o := 28) (by decide) h28, fA_m f (o := 29) (by decide) h29]
  exact ⟨r.1, fun q => absurd q (by omega)⟩
theorem cvX.mf {M M2 : hz_M} {B w : Nat} {b : List bk_B} {e : List en_E} {ks os : List Nat} (h : cvX M B w b e) (f : mfr B ks os M M2) (k53 : ks.elem 53 = false) (k54 : ks.elem 54 = false) (k55 : ks.elem 55 = false) (ho : [43, 44, 45, 46, 47, 48].all (fun o => !os.elem o) = true) : cvX M2 B w b e := by
  obtain ⟨cn, cb, q1, q2, q3⟩ := h
  exact ⟨cn, cb, (f.2.2 54 k54).trans q1, (f.2.2 55 k55).trans q2, fun c => by obtain ⟨x, x1, x2, x3⟩ := q3 c; exact ⟨x, x1, x2, x3.fr f k53 ho⟩⟩
theorem mnS.mh {M M2 : hz_M} {B v : Nat} {up fz : Int32} {S : ks_S} {po : List po_P} {ks os : List Nat} (h : mnS M B v up S fz po) (f : mfr B ks os M M2) (k53 : ks.elem 53 = false) (k54 : ks.elem 54 = false) (k55 : ks.elem 55 = false) (o16 : os.elem 16 = false) (o17 : os.elem 17 = false) (o18 : os.elem 18 = false) (o19 : os.elem 19 = false) (o24 : os.elem 24 = false) (h26 : os.elem 26 = false) (h27 : os.elem 27 = false) (h28 : os.elem 28 = false) (h29 : os.elem 29 = false) (on : [20, 21, 24, 25, 30, 31, 32, 33, 34, 51].all (fun o => !os.elem o) = true) (op : [54, 55, 56, 57, 58].all (fun o => !os.elem o) = true) (oc : [43, 44, 45, 46, 47, 48].all (fun o => !os.elem o) = true) : mnS M2 B v up S fz po := by
  obtain ⟨h1, h2, h3, h4, h5, h6, h7, h9⟩ := h
  exact ⟨by rw [fA_m f (by decide) o16]; exact h1, by rw [fA_m f (by decide) o17]; exact h2, by rw [fA_m f (by decide) o18]; exact h3, by rw [fA_m f (by decide) o19]; exact h4, ⟨h5.1.mh (by rw [enB_len]; exact Nat.le_refl _) f h26 h27 h28 h29, h5.2.1.mf f on, by rw [fA_m f (by decide) o24]; exact h5.2.2⟩, h6.mf f op, h7.mf f k53 k54 k55 oc, by unfold mnP; rw [fA_m f (by decide) o24]; exact h9⟩
/-- what a message does: the state, whether the node is still up, whether it is refused -/
def rvS (nn : Nat) (dl : Nat → Nat) (now : Int32) (v : Nat) (fr : Int32) (d : Nat) (S : ks_S) (kd : Nat) (l : by_L) : ks_S × Bool × Bool := if kd = 5 then ((tkB nn dl now v fr d S l).1, (tkB nn dl now v fr d S l).2.1, decide (ksJ S l = 1)) else if kd = 6 then (tkT nn dl now v fr S l, true, decide (ksV S l = 1)) else (ksq S (hrQ now v fr d S kd l), true, !rwO (rwU kd) l)
theorem rvS_5 {nn : Nat} {dl : Nat → Nat} {now : Int32} {v : Nat} {fr : Int32} {d : Nat} {S : ks_S} {l : by_L} : rvS nn dl now v fr d S 5 l = ((tkB nn dl now v fr d S l).1, (tkB nn dl now v fr d S l).2.1, decide (ksJ S l = 1)) := if_pos rfl
theorem rvS_6 {nn : Nat} {dl : Nat → Nat} {now : Int32} {v : Nat} {fr : Int32} {d : Nat} {S : ks_S} {l : by_L} : rvS nn dl now v fr d S 6 l = (tkT nn dl now v fr S l, true, decide (ksV S l = 1)) := rfl
theorem rvS_h {nn : Nat} {dl : Nat → Nat} {now : Int32} {v : Nat} {fr : Int32} {d : Nat} {S : ks_S} {l : by_L} {kd : Nat} (h : kd ≤ 4) : rvS nn dl now v fr d S kd l = (ksq S (hrQ now v fr d S kd l), true, !rwO (rwU kd) l) := by unfold rvS; rw [if_neg (by omega), if_neg (by omega)]
set_option maxHeartbeats 4000000 in
set_option maxRecDepth 100000 in
theorem c_isRow32 {κ : hz_C} {z B : Nat} {M : hz_M} {l : by_L} (hO_ : md_O M B) (h8 : 8 ≤ B) (hz : B + 88 ≤ z) (hl4 : l.length ≤ 4000) (h92 : fdB M B 92 = some (.int (nI l.length))) : hz_Mt κ xX12_isRow 0 0 0 [.ref B, .int (nI 32)] z M (hz_ex (some (.int (hz_b (rwO 32 l)))) z M) := by
  refine hz_ent (lo := [(0, .ref B), (1, .int (nI 32))]) (by decide) (Nat.le_of_ble_eq_true rfl) rfl ?_
  obtain ⟨fs, hO, hF⟩ := id hO_
  have g92 : fs[92]? = some (.int (nI l.length)) := (fdB_of hO 92).symm.trans h92
  refine hz_aloadn (pc := 0) 0 (hz_dec kX12_isRow 0 rfl) rfl ?_
  refine hz_get (pc := 1) (v := .int (nI (l.length))) (hz_dec kX12_isRow 1 rfl) fo_X12_637 hO h8 (by omega) g92 ?_
  refine hz_iloadn (pc := 4) 1 (hz_dec kX12_isRow 2 rfl) rfl ?_
  refine hz_remN (pc := 5) (hz_dec kX12_isRow 3 rfl) (by omega) (by decide) (by decide) ?_
  refine hz_z_ne (pc := 6) (tgt := 32) (hz_dec kX12_isRow 4 rfl) (by decide) (by omega) (fun h1 => ?_) (fun h1 => ?_)
  · skip
    have e9 : rwO 32 l = false := decide_eq_false (fun q => by omega)
    refine hz_iconst (pc := 32) (v := nI 0) (hz_dec kX12_isRow 17 rfl) (by decide) ?_
    exact hz_zret (pc := 33) (hz_dec kX12_isRow 18 rfl) rfl rfl ⟨by rw [e9]; rfl, rfl, rfl⟩
  · skip
    refine hz_aloadn (pc := 9) 0 (hz_dec kX12_isRow 5 rfl) rfl ?_
    refine hz_get (pc := 10) (v := .int (nI (l.length))) (hz_dec kX12_isRow 6 rfl) fo_X12_637 hO h8 (by omega) g92 ?_
    refine hz_iloadn (pc := 13) 1 (hz_dec kX12_isRow 7 rfl) rfl ?_
    refine hz_n_lt (pc := 14) (tgt := 32) (hz_dec kX12_isRow 8 rfl) (by decide) (by omega) (by omega) (fun h2 => ?_) (fun h2 => ?_)
    · skip
      have e9 : rwO 32 l = false := decide_eq_false (fun q => by omega)
      refine hz_iconst (pc := 32) (v := nI 0) (hz_dec kX12_isRow 17 rfl) (by decide) ?_
      exact hz_zret (pc := 33) (hz_dec kX12_isRow 18 rfl) rfl rfl ⟨by rw [e9]; rfl, rfl, rfl⟩
    · skip
      refine hz_aloadn (pc := 17) 0 (hz_dec kX12_isRow 9 rfl) rfl ?_
      refine hz_get (pc := 18) (v := .int (nI (l.length))) (hz_dec kX12_isRow 10 rfl) fo_X12_637 hO h8 (by omega) g92 ?_
      refine hz_bipush (pc := 21) (v := nI 16) (hz_dec kX12_isRow 11 rfl) (by decide) ?_
      refine hz_iloadn (pc := 23) 1 (hz_dec kX12_isRow 12 rfl) rfl ?_
      refine hz_mulN (pc := 24) (hz_dec kX12_isRow 13 rfl) ?_
      refine hz_n_gt (pc := 25) (tgt := 32) (hz_dec kX12_isRow 14 rfl) (by decide) (by omega) (by omega) (fun h3 => ?_) (fun h3 => ?_)
      · skip
        have e9 : rwO 32 l = false := decide_eq_false (fun q => by omega)
        refine hz_iconst (pc := 32) (v := nI 0) (hz_dec kX12_isRow 17 rfl) (by decide) ?_
        exact hz_zret (pc := 33) (hz_dec kX12_isRow 18 rfl) rfl rfl ⟨by rw [e9]; rfl, rfl, rfl⟩
      · skip
        have e9 : rwO 32 l = true := decide_eq_true (by omega)
        refine hz_iconst (pc := 28) (v := nI 1) (hz_dec kX12_isRow 15 rfl) (by decide) ?_
        refine hz_goto (pc := 29) (tgt := 33) (hz_dec kX12_isRow 16 rfl) (by decide) ?_
        exact hz_zret (pc := 33) (hz_dec kX12_isRow 18 rfl) rfl rfl ⟨by rw [e9]; rfl, rfl, rfl⟩
set_option maxHeartbeats 4000000 in
set_option maxRecDepth 100000 in
theorem c_isRow80 {κ : hz_C} {z B : Nat} {M : hz_M} {l : by_L} (hO_ : md_O M B) (h8 : 8 ≤ B) (hz : B + 88 ≤ z) (hl4 : l.length ≤ 4000) (h92 : fdB M B 92 = some (.int (nI l.length))) : hz_Mt κ xX12_isRow 0 0 0 [.ref B, .int (nI 80)] z M (hz_ex (some (.int (hz_b (rwO 80 l)))) z M) := by
  refine hz_ent (lo := [(0, .ref B), (1, .int (nI 80))]) (by decide) (Nat.le_of_ble_eq_true rfl) rfl ?_
  obtain ⟨fs, hO, hF⟩ := id hO_
  have g92 : fs[92]? = some (.int (nI l.length)) := (fdB_of hO 92).symm.trans h92
  refine hz_aloadn (pc := 0) 0 (hz_dec kX12_isRow 0 rfl) rfl ?_
  refine hz_get (pc := 1) (v := .int (nI (l.length))) (hz_dec kX12_isRow 1 rfl) fo_X12_637 hO h8 (by omega) g92 ?_
  refine hz_iloadn (pc := 4) 1 (hz_dec kX12_isRow 2 rfl) rfl ?_
  refine hz_remN (pc := 5) (hz_dec kX12_isRow 3 rfl) (by omega) (by decide) (by decide) ?_
  refine hz_z_ne (pc := 6) (tgt := 32) (hz_dec kX12_isRow 4 rfl) (by decide) (by omega) (fun h1 => ?_) (fun h1 => ?_)
  · skip
    have e9 : rwO 80 l = false := decide_eq_false (fun q => by omega)
    refine hz_iconst (pc := 32) (v := nI 0) (hz_dec kX12_isRow 17 rfl) (by decide) ?_
    exact hz_zret (pc := 33) (hz_dec kX12_isRow 18 rfl) rfl rfl ⟨by rw [e9]; rfl, rfl, rfl⟩
  · skip
    refine hz_aloadn (pc := 9) 0 (hz_dec kX12_isRow 5 rfl) rfl ?_
    refine hz_get (pc := 10) (v := .int (nI (l.length))) (hz_dec kX12_isRow 6 rfl) fo_X12_637 hO h8 (by omega) g92 ?_
    refine hz_iloadn (pc := 13) 1 (hz_dec kX12_isRow 7 rfl) rfl ?_
    refine hz_n_lt (pc := 14) (tgt := 32) (hz_dec kX12_isRow 8 rfl) (by decide) (by omega) (by omega) (fun h2 => ?_) (fun h2 => ?_)
    · skip
      have e9 : rwO 80 l = false := decide_eq_false (fun q => by omega)
      refine hz_iconst (pc := 32) (v := nI 0) (hz_dec kX12_isRow 17 rfl) (by decide) ?_
      exact hz_zret (pc := 33) (hz_dec kX12_isRow 18 rfl) rfl rfl ⟨by rw [e9]; rfl, rfl, rfl⟩
    · skip
      refine hz_aloadn (pc := 17) 0 (hz_dec kX12_isRow 9 rfl) rfl ?_
      refine hz_get (pc := 18) (v := .int (nI (l.length))) (hz_dec kX12_isRow 10 rfl) fo_X12_637 hO h8 (by omega) g92 ?_
      refine hz_bipush (pc := 21) (v := nI 16) (hz_dec kX12_isRow 11 rfl) (by decide) ?_
      refine hz_iloadn (pc := 23) 1 (hz_dec kX12_isRow 12 rfl) rfl ?_
      refine hz_mulN (pc := 24) (hz_dec kX12_isRow 13 rfl) ?_
      refine hz_n_gt (pc := 25) (tgt := 32) (hz_dec kX12_isRow 14 rfl) (by decide) (by omega) (by omega) (fun h3 => ?_) (fun h3 => ?_)
      · skip
        have e9 : rwO 80 l = false := decide_eq_false (fun q => by omega)
        refine hz_iconst (pc := 32) (v := nI 0) (hz_dec kX12_isRow 17 rfl) (by decide) ?_
        exact hz_zret (pc := 33) (hz_dec kX12_isRow 18 rfl) rfl rfl ⟨by rw [e9]; rfl, rfl, rfl⟩
      · skip
        have e9 : rwO 80 l = true := decide_eq_true (by omega)
        refine hz_iconst (pc := 28) (v := nI 1) (hz_dec kX12_isRow 15 rfl) (by decide) ?_
        refine hz_goto (pc := 29) (tgt := 33) (hz_dec kX12_isRow 16 rfl) (by decide) ?_
        exact hz_zret (pc := 33) (hz_dec kX12_isRow 18 rfl) rfl rfl ⟨by rw [e9]; rfl, rfl, rfl⟩
def rvP (M : hz_M) (z B nn v : Nat) (now : Int32) (dl : Nat → Nat) (R : ks_S × Bool × Bool) : hz_P := fun r z2 M2 => (∃ rv : Int32, some (.int rv) = r) ∧ z = z2 ∧ mfr B [16, 39, 53, 54, 55, 59, 61, 86, 87, 88] [3, 4, 5, 6, 7, 8, 9, 10, 11, 12, 13, 14, 15, 16, 17, 18, 19, 20, 21, 22, 23, 24, 25, 26, 27, 28, 29, 30, 31, 32, 33, 35, 36, 37, 38, 39, 40, 41, 42, 43, 44, 45, 46, 47, 48, 49, 50, 51, 52, 53, 54, 55, 56, 57, 58, 59, 60, 61, 62, 63, 64, 65, 66, 67, 68, 70, 71, 72, 73, 74, 75, 76, 77, 79] M M2 ∧ mdE M2 B ∧ agV M M2 B v ∧ cvW M M2 B v ∧ mgR M2 B nn now dl (ksQ R.1) ∧ fA M2 B 22 v = fA M B 22 v + 1 ∧ fA M2 B 23 v = (if R.2.2 = true then fA M B 23 v + 1 else fA M B 23 v) ∧ (R.2.1 = true → mnS M2 B v 1 R.1 (pvI (ksF R.1)) (ksP R.1) ∧ orX (fA M2 B) v (mkO (ksL R.1))) ∧ (R.2.1 = false → mnS M2 B v 0 R.1 (-1) [] ∧ orX (fA M2 B) v [])
set_option maxHeartbeats 4000000 in
set_option maxRecDepth 100000 in
theorem c_rcv1 {κ : hz_C} {z B nn v : Nat} {now fr : Int32} {dl : Nat → Nat} (hnn : nn ≤ 6) (hvn : v < nn) {d : Nat} (hto : (∃ b, b < 6 ∧ fr = nI b ∧ d = dl (6 * v + b)) ∨ (fr < 0 ∧ d = 0)) {M : hz_M} {S : ks_S} {l : by_L} (hk0 : md_k B M z) (hE : mdE M B) (hmg : mgR M B nn now dl (ksQ S)) (hmn : mnS M B v 1 S (pvI (ksF S)) (ksP S)) (hor : orX (fA M B) v (mkO (ksL S))) (hI : ksI S) (hl4 : l.length ≤ 4000) (h78 : isA (fA M B 78) 0 l) (h92 : fdB M B 92 = some (.int (nI l.length))) : hz_Mt κ xX12_receive 23 0 0 [.ref B, .int (nI v), .int fr, .int (nI 1)] z M (rvP M z B nn v now dl (rvS nn dl now v fr d S 1 l)) := by
  refine hz_ent (lo := [(0, .ref B), (1, .int (nI v)), (2, .int fr), (3, .int (nI 1))]) (by decide) (Nat.le_of_ble_eq_true rfl) rfl ?_
  obtain ⟨⟨fs, hO, hF⟩, -, -, h8, hz⟩ := id hk0
  have hv6 : v < 6 := by omega
  refine hz_aloadn (pc := 0) 0 (hz_dec kX12_receive 0 rfl) rfl ?_
  refine hz_get (pc := 1) (v := .ref (B + 22)) (hz_dec kX12_receive 1 rfl) fo_X12_77 hO h8 (by omega) (hF.2 24 (by decide) (by decide)) ?_
  refine hz_iloadn (pc := 4) 1 (hz_dec kX12_receive 2 rfl) rfl ?_
  refine hz_dup2 (pc := 5) (hz_dec kX12_receive 3 rfl) rfl rfl ?_
  refine hz_iald (pc := 6) (j := v) (hz_dec kX12_receive 4 rfl) hE.a22 (by omega) (by omega) rfl (by omega) (by decide) ?_
  refine hz_iconst (pc := 7) (v := nI 1) (hz_dec kX12_receive 5 rfl) (by decide) ?_
  refine hz_iadd (pc := 8) (hz_dec kX12_receive 6 rfl) ?_
  refine hz_iast (pc := 9) (j := v) (hz_dec kX12_receive 7 rfl) hE.a22 (by omega) (by omega) rfl (by omega) (by decide) ?_
  have hm1 : mfr B [] [22] M (va_up M (B + 22) (.inl (0, 6, .inl (upd (fA M B 22) v ((((fA M B 22) v) + (nI (1)))))))) := (mfr.rf ⟨fs, hO, hF⟩).upA (o := 22) rfl (by decide)
  have hE1 : mdE (va_up M (B + 22) (.inl (0, 6, .inl (upd (fA M B 22) v ((((fA M B 22) v) + (nI (1)))))))) B := hE.upA (by decide)
  have hg1 : agV M (va_up M (B + 22) (.inl (0, 6, .inl (upd (fA M B 22) v ((((fA M B 22) v) + (nI (1)))))))) B v := agV.upA (s := 1) agV.rf rfl rfl (fun x hx => upd_o (by omega))
  have e22 : fA (va_up M (B + 22) (.inl (0, 6, .inl (upd (fA M B 22) v ((((fA M B 22) v) + (nI (1)))))))) B 22 v = fA M B 22 v + 1 := by rw [fA_of (va_up_self _ _ _), upd_s]; rfl
  generalize (va_up M (B + 22) (.inl (0, 6, .inl (upd (fA M B 22) v ((((fA M B 22) v) + (nI (1)))))))) = M1 at *
  have hk1 := hk0.mf hm1 rfl rfl
  have hmg1 := hmg.mf hm1 rfl rfl
  have hmn1 := hmn.mf hm1 rfl rfl
  have hor1 := hor.mf hm1 rfl
  have h781 : isA (fA M1 B 78) 0 l := by rw [fA_m hm1 (by decide) rfl]; exact h78
  have h921 := (hm1.2.2 92 rfl).trans h92
  have e23 : fA M1 B 23 = fA M B 23 := fA_m hm1 (by decide) rfl
  have hcw1 : cvW M M1 B v := (cvK.mf (bl := ksB S) (en := enB (ksB S)) hm1 rfl rfl rfl rfl).w
  obtain ⟨fs1, hO1, hF1⟩ := id hm1.2.1
  refine hz_iloadn (pc := 10) 3 (hz_dec kX12_receive 8 rfl) rfl ?_
  refine hz_swIn (pc := 11) (off := 33) (tgt := 44) (hz_dec kX12_receive 9 rfl) (by decide) (by decide) rfl (by decide) ?_
  refine hz_aloadn (pc := 44) 0 (hz_dec kX12_receive 10 rfl) rfl ?_
  refine hz_bipush (pc := 45) (v := nI 32) (hz_dec kX12_receive 11 rfl) (by decide) ?_
  refine hz_xV (pc := 47) (a := B) (As := [.int (nI 32)]) (st := []) (hz_dec kX12_receive 12 rfl) co_X12_640 im_X12_isRow se_X12_isRow rfl hO1 h8 (by omega) (c_isRow32 hm1.2.1 h8 hz hl4 h921) rfl (by decide) ⟨Nat.le_refl _, Nat.le_refl _⟩ (Nat.le_of_ble_eq_true rfl) rfl ?_
  refine hz_if_ne (pc := 50) (tgt := 66) (hz_dec kX12_receive 13 rfl) (by decide) (fun h1 => ?_) (fun h1 => ?_)
  · skip
    have e9 : rwO (rwU 1) l = true := hz_b1 h1
    have eq9 := of_decide_eq_true e9
    have hu9 : rwU 1 = 32 := rfl
    rw [hu9] at eq9
    refine hz_iloadn (pc := 66) 3 (hz_dec kX12_receive 23 rfl) rfl ?_
    refine hz_iconst (pc := 67) (v := nI 1) (hz_dec kX12_receive 24 rfl) (by decide) ?_
    refine hz_n_ne (pc := 68) (tgt := 80) (hz_dec kX12_receive 25 rfl) (by decide) (by omega) (by omega) (fun h2 => ?_) (fun h2 => ?_)
    · skip
      exact absurd rfl h2
    · skip
      refine hz_aloadn (pc := 71) 0 (hz_dec kX12_receive 26 rfl) rfl ?_
      refine hz_iloadn (pc := 72) 1 (hz_dec kX12_receive 27 rfl) rfl ?_
      refine hz_iloadn (pc := 73) 2 (hz_dec kX12_receive 28 rfl) rfl ?_
      refine hz_callV (pc := 74) (a := B) (As := [.int (nI v), .int fr]) (st := []) (hz_dec kX12_receive 29 rfl) co_X12_643 im_X12_receiveTold se_X12_receiveTold rfl hO1 h8 (by omega) (c_rTold (n := l.length / 32) hnn hvn hto hk1 hE1 hmg1 hmn1.2.2.2.2.1 hI hl4 h781 h921 (by omega) (by omega)) rfl (by decide) ⟨Nat.le_refl _, Nat.le_refl _⟩ (Nat.le_of_ble_eq_true rfl) rfl (fun r9 z9 M2 hp9 => ?_)
      obtain ⟨rfl, rfl, hf2, hE2, hmg2⟩ := hp9
      have eQ : hrQ now v fr d S 1 l = tdQ now v fr d S l (l.length / 32) := by unfold hrQ; rw [if_pos e9]; rfl
      have eR : rvS nn dl now v fr d S 1 l = (ksq S (tdQ now v fr d S l (l.length / 32)), true, false) := by rw [rvS_h (by decide), eQ, e9]; rfl
      refine hz_goto (pc := 77) (tgt := 100) (hz_dec kX12_receive 30 rfl) (by decide) ?_
      refine hz_iconst (pc := 100) (v := (-1)) (hz_dec kX12_receive 43 rfl) (by decide) ?_
      have hmn2 : mnS M2 B v 1 S (pvI (ksF S)) (ksP S) := hmn1.mh hf2 rfl rfl rfl rfl rfl rfl rfl rfl rfl rfl rfl rfl rfl rfl rfl
      exact hz_iret (pc := 101) (hz_dec kX12_receive 44 rfl) rfl ⟨⟨_, rfl⟩, rfl, (hm1.mono rfl rfl).tr (hf2.mono rfl rfl), hE2, hg1.tr (agV.mf hf2 rfl rfl), hcw1.tr (cvK.mf (bl := ksB S) (en := enB (ksB S)) hf2 rfl rfl rfl rfl).w, by rw [eR]; exact hmg2, by rw [fA_m hf2 (by decide) rfl]; exact e22, by rw [eR, fA_m hf2 (by decide) rfl, e23]; rfl, fun _ => by rw [eR]; exact ⟨hmn2, hor1.mf hf2 rfl⟩, fun q => by rw [eR] at q; cases q⟩
  · skip
    have e9 : rwO (rwU 1) l = false := hz_b0 h1
    have eQ : hrQ now v fr d S 1 l = ksQ S := by unfold hrQ; rw [e9]; rfl
    have eR : rvS nn dl now v fr d S 1 l = (S, true, true) := by rw [rvS_h (by decide), eQ, e9]; rfl
    refine hz_aloadn (pc := 53) 0 (hz_dec kX12_receive 14 rfl) rfl ?_
    refine hz_get (pc := 54) (v := .ref (B + 23)) (hz_dec kX12_receive 15 rfl) fo_X12_80 hO1 h8 (by omega) (hF1.2 25 (by decide) (by decide)) ?_
    refine hz_iloadn (pc := 57) 1 (hz_dec kX12_receive 16 rfl) rfl ?_
    refine hz_dup2 (pc := 58) (hz_dec kX12_receive 17 rfl) rfl rfl ?_
    refine hz_iald (pc := 59) (j := v) (hz_dec kX12_receive 18 rfl) hE1.a23 (by omega) (by omega) rfl (by omega) (by decide) ?_
    refine hz_iconst (pc := 60) (v := nI 1) (hz_dec kX12_receive 19 rfl) (by decide) ?_
    refine hz_iadd (pc := 61) (hz_dec kX12_receive 20 rfl) ?_
    refine hz_iast (pc := 62) (j := v) (hz_dec kX12_receive 21 rfl) hE1.a23 (by omega) (by omega) rfl (by omega) (by decide) ?_
    refine hz_goto (pc := 63) (tgt := 100) (hz_dec kX12_receive 22 rfl) (by decide) ?_
    refine hz_iconst (pc := 100) (v := (-1)) (hz_dec kX12_receive 43 rfl) (by decide) ?_
    have hm2 : mfr B [] [23] M1 (va_up M1 (B + 23) (.inl (0, 6, .inl (upd (fA M1 B 23) v ((((fA M1 B 23) v) + (nI (1)))))))) := (mfr.rf ⟨fs1, hO1, hF1⟩).upA (o := 23) rfl (by decide)
    have hg2 : agV M (va_up M1 (B + 23) (.inl (0, 6, .inl (upd (fA M1 B 23) v ((((fA M1 B 23) v) + (nI (1)))))))) B v := agV.upA (s := 1) hg1 rfl rfl (fun x hx => upd_o (by omega))
    have e232 : fA (va_up M1 (B + 23) (.inl (0, 6, .inl (upd (fA M1 B 23) v ((((fA M1 B 23) v) + (nI (1)))))))) B 23 v = fA M B 23 v + 1 := by rw [fA_of (va_up_self _ _ _), upd_s, e23]; rfl
    exact hz_iret (pc := 101) (hz_dec kX12_receive 44 rfl) rfl ⟨⟨_, rfl⟩, rfl, (hm1.mono rfl rfl).tr (hm2.mono rfl rfl), hE1.upA (by decide), hg2, hcw1.tr (cvK.mf (bl := ksB S) (en := enB (ksB S)) hm2 rfl rfl rfl rfl).w, by rw [eR]; exact hmg1.mf hm2 rfl rfl, by rw [fA_m hm2 (by decide) rfl]; exact e22, by rw [eR]; exact e232, fun _ => by rw [eR]; exact ⟨hmn1.mf hm2 rfl rfl, hor1.mf hm2 rfl⟩, fun q => by rw [eR] at q; cases q⟩
set_option maxHeartbeats 4000000 in
set_option maxRecDepth 100000 in
theorem c_rcv2 {κ : hz_C} {z B nn v : Nat} {now fr : Int32} {dl : Nat → Nat} (hnn : nn ≤ 6) (hvn : v < nn) {d : Nat} (hto : (∃ b, b < 6 ∧ fr = nI b ∧ d = dl (6 * v + b)) ∨ (fr < 0 ∧ d = 0)) {M : hz_M} {S : ks_S} {l : by_L} (hk0 : md_k B M z) (hE : mdE M B) (hmg : mgR M B nn now dl (ksQ S)) (hmn : mnS M B v 1 S (pvI (ksF S)) (ksP S)) (hor : orX (fA M B) v (mkO (ksL S))) (hI : ksI S) (hl4 : l.length ≤ 4000) (h78 : isA (fA M B 78) 0 l) (h92 : fdB M B 92 = some (.int (nI l.length))) : hz_Mt κ xX12_receive 23 0 0 [.ref B, .int (nI v), .int fr, .int (nI 2)] z M (rvP M z B nn v now dl (rvS nn dl now v fr d S 2 l)) := by
  refine hz_ent (lo := [(0, .ref B), (1, .int (nI v)), (2, .int fr), (3, .int (nI 2))]) (by decide) (Nat.le_of_ble_eq_true rfl) rfl ?_
  obtain ⟨⟨fs, hO, hF⟩, -, -, h8, hz⟩ := id hk0
  have hv6 : v < 6 := by omega
  refine hz_aloadn (pc := 0) 0 (hz_dec kX12_receive 0 rfl) rfl ?_
  refine hz_get (pc := 1) (v := .ref (B + 22)) (hz_dec kX12_receive 1 rfl) fo_X12_77 hO h8 (by omega) (hF.2 24 (by decide) (by decide)) ?_
  refine hz_iloadn (pc := 4) 1 (hz_dec kX12_receive 2 rfl) rfl ?_
  refine hz_dup2 (pc := 5) (hz_dec kX12_receive 3 rfl) rfl rfl ?_
  refine hz_iald (pc := 6) (j := v) (hz_dec kX12_receive 4 rfl) hE.a22 (by omega) (by omega) rfl (by omega) (by decide) ?_
  refine hz_iconst (pc := 7) (v := nI 1) (hz_dec kX12_receive 5 rfl) (by decide) ?_
  refine hz_iadd (pc := 8) (hz_dec kX12_receive 6 rfl) ?_
  refine hz_iast (pc := 9) (j := v) (hz_dec kX12_receive 7 rfl) hE.a22 (by omega) (by omega) rfl (by omega) (by decide) ?_
  have hm1 : mfr B [] [22] M (va_up M (B + 22) (.inl (0, 6, .inl (upd (fA M B 22) v ((((fA M B 22) v) + (nI (1)))))))) := (mfr.rf ⟨fs, hO, hF⟩).upA (o := 22) rfl (by decide)
  have hE1 : mdE (va_up M (B + 22) (.inl (0, 6, .inl (upd (fA M B 22) v ((((fA M B 22) v) + (nI (1)))))))) B := hE.upA (by decide)
  have hg1 : agV M (va_up M (B + 22) (.inl (0, 6, .inl (upd (fA M B 22) v ((((fA M B 22) v) + (nI (1)))))))) B v := agV.upA (s := 1) agV.rf rfl rfl (fun x hx => upd_o (by omega))
  have e22 : fA (va_up M (B + 22) (.inl (0, 6, .inl (upd (fA M B 22) v ((((fA M B 22) v) + (nI (1)))))))) B 22 v = fA M B 22 v + 1 := by rw [fA_of (va_up_self _ _ _), upd_s]; rfl
  generalize (va_up M (B + 22) (.inl (0, 6, .inl (upd (fA M B 22) v ((((fA M B 22) v) + (nI (1)))))))) = M1 at *
  have hk1 := hk0.mf hm1 rfl rfl
  have hmg1 := hmg.mf hm1 rfl rfl
  have hmn1 := hmn.mf hm1 rfl rfl
  have hor1 := hor.mf hm1 rfl
  have h781 : isA (fA M1 B 78) 0 l := by rw [fA_m hm1 (by decide) rfl]; exact h78
  have h921 := (hm1.2.2 92 rfl).trans h92
  have e23 : fA M1 B 23 = fA M B 23 := fA_m hm1 (by decide) rfl
  have hcw1 : cvW M M1 B v := (cvK.mf (bl := ksB S) (en := enB (ksB S)) hm1 rfl rfl rfl rfl).w
  obtain ⟨fs1, hO1, hF1⟩ := id hm1.2.1
  refine hz_iloadn (pc := 10) 3 (hz_dec kX12_receive 8 rfl) rfl ?_
  refine hz_swIn (pc := 11) (off := 33) (tgt := 44) (hz_dec kX12_receive 9 rfl) (by decide) (by decide) rfl (by decide) ?_
  refine hz_aloadn (pc := 44) 0 (hz_dec kX12_receive 10 rfl) rfl ?_
  refine hz_bipush (pc := 45) (v := nI 32) (hz_dec kX12_receive 11 rfl) (by decide) ?_
  refine hz_xV (pc := 47) (a := B) (As := [.int (nI 32)]) (st := []) (hz_dec kX12_receive 12 rfl) co_X12_640 im_X12_isRow se_X12_isRow rfl hO1 h8 (by omega) (c_isRow32 hm1.2.1 h8 hz hl4 h921) rfl (by decide) ⟨Nat.le_refl _, Nat.le_refl _⟩ (Nat.le_of_ble_eq_true rfl) rfl ?_
  refine hz_if_ne (pc := 50) (tgt := 66) (hz_dec kX12_receive 13 rfl) (by decide) (fun h1 => ?_) (fun h1 => ?_)
  · skip
    have e9 : rwO (rwU 2) l = true := hz_b1 h1
    have eq9 := of_decide_eq_true e9
    have hu9 : rwU 2 = 32 := rfl
    rw [hu9] at eq9
    refine hz_iloadn (pc := 66) 3 (hz_dec kX12_receive 23 rfl) rfl ?_
    refine hz_iconst (pc := 67) (v := nI 1) (hz_dec kX12_receive 24 rfl) (by decide) ?_
    refine hz_n_ne (pc := 68) (tgt := 80) (hz_dec kX12_receive 25 rfl) (by decide) (by omega) (by omega) (fun h2 => ?_) (fun h2 => ?_)
    · skip
      refine hz_iloadn (pc := 80) 3 (hz_dec kX12_receive 31 rfl) rfl ?_
      refine hz_iconst (pc := 81) (v := nI 2) (hz_dec kX12_receive 32 rfl) (by decide) ?_
      refine hz_n_ne (pc := 82) (tgt := 94) (hz_dec kX12_receive 33 rfl) (by decide) (by omega) (by omega) (fun h3 => ?_) (fun h3 => ?_)
      · skip
        exact absurd rfl h3
      · skip
        refine hz_aloadn (pc := 85) 0 (hz_dec kX12_receive 34 rfl) rfl ?_
        refine hz_iloadn (pc := 86) 1 (hz_dec kX12_receive 35 rfl) rfl ?_
        refine hz_iloadn (pc := 87) 2 (hz_dec kX12_receive 36 rfl) rfl ?_
        refine hz_callV (pc := 88) (a := B) (As := [.int (nI v), .int fr]) (st := []) (hz_dec kX12_receive 37 rfl) co_X12_646 im_X12_receiveAsk se_X12_receiveAsk rfl hO1 h8 (by omega) (c_rAsk (n := l.length / 32) hnn hvn hto hk1 hE1 hmg1 hmn1.2.2.2.2.1 hI hl4 h781 h921 (by omega) (by omega)) rfl (by decide) ⟨Nat.le_refl _, Nat.le_refl _⟩ (Nat.le_of_ble_eq_true rfl) rfl (fun r9 z9 M2 hp9 => ?_)
        obtain ⟨rfl, rfl, hf2, hE2, hmg2⟩ := hp9
        have eQ : hrQ now v fr d S 2 l = adQ now v fr d S l (l.length / 32) := by unfold hrQ; rw [if_pos e9]; rfl
        have eR : rvS nn dl now v fr d S 2 l = (ksq S (adQ now v fr d S l (l.length / 32)), true, false) := by rw [rvS_h (by decide), eQ, e9]; rfl
        refine hz_goto (pc := 91) (tgt := 100) (hz_dec kX12_receive 38 rfl) (by decide) ?_
        refine hz_iconst (pc := 100) (v := (-1)) (hz_dec kX12_receive 43 rfl) (by decide) ?_
        have hmn2 : mnS M2 B v 1 S (pvI (ksF S)) (ksP S) := hmn1.mh hf2 rfl rfl rfl rfl rfl rfl rfl rfl rfl rfl rfl rfl rfl rfl rfl
        exact hz_iret (pc := 101) (hz_dec kX12_receive 44 rfl) rfl ⟨⟨_, rfl⟩, rfl, (hm1.mono rfl rfl).tr (hf2.mono rfl rfl), hE2, hg1.tr (agV.mf hf2 rfl rfl), hcw1.tr (cvK.mf (bl := ksB S) (en := enB (ksB S)) hf2 rfl rfl rfl rfl).w, by rw [eR]; exact hmg2, by rw [fA_m hf2 (by decide) rfl]; exact e22, by rw [eR, fA_m hf2 (by decide) rfl, e23]; rfl, fun _ => by rw [eR]; exact ⟨hmn2, hor1.mf hf2 rfl⟩, fun q => by rw [eR] at q; cases q⟩
    · skip
      exact absurd h2 (by decide)
  · skip
    have e9 : rwO (rwU 2) l = false := hz_b0 h1
    have eQ : hrQ now v fr d S 2 l = ksQ S := by unfold hrQ; rw [e9]; rfl
    have eR : rvS nn dl now v fr d S 2 l = (S, true, true) := by rw [rvS_h (by decide), eQ, e9]; rfl
    refine hz_aloadn (pc := 53) 0 (hz_dec kX12_receive 14 rfl) rfl ?_
    refine hz_get (pc := 54) (v := .ref (B + 23)) (hz_dec kX12_receive 15 rfl) fo_X12_80 hO1 h8 (by omega) (hF1.2 25 (by decide) (by decide)) ?_
    refine hz_iloadn (pc := 57) 1 (hz_dec kX12_receive 16 rfl) rfl ?_
    refine hz_dup2 (pc := 58) (hz_dec kX12_receive 17 rfl) rfl rfl ?_
    refine hz_iald (pc := 59) (j := v) (hz_dec kX12_receive 18 rfl) hE1.a23 (by omega) (by omega) rfl (by omega) (by decide) ?_
    refine hz_iconst (pc := 60) (v := nI 1) (hz_dec kX12_receive 19 rfl) (by decide) ?_
    refine hz_iadd (pc := 61) (hz_dec kX12_receive 20 rfl) ?_
    refine hz_iast (pc := 62) (j := v) (hz_dec kX12_receive 21 rfl) hE1.a23 (by omega) (by omega) rfl (by omega) (by decide) ?_
    refine hz_goto (pc := 63) (tgt := 100) (hz_dec kX12_receive 22 rfl) (by decide) ?_
    refine hz_iconst (pc := 100) (v := (-1)) (hz_dec kX12_receive 43 rfl) (by decide) ?_
    have hm2 : mfr B [] [23] M1 (va_up M1 (B + 23) (.inl (0, 6, .inl (upd (fA M1 B 23) v ((((fA M1 B 23) v) + (nI (1)))))))) := (mfr.rf ⟨fs1, hO1, hF1⟩).upA (o := 23) rfl (by decide)
    have hg2 : agV M (va_up M1 (B + 23) (.inl (0, 6, .inl (upd (fA M1 B 23) v ((((fA M1 B 23) v) + (nI (1)))))))) B v := agV.upA (s := 1) hg1 rfl rfl (fun x hx => upd_o (by omega))
    have e232 : fA (va_up M1 (B + 23) (.inl (0, 6, .inl (upd (fA M1 B 23) v ((((fA M1 B 23) v) + (nI (1)))))))) B 23 v = fA M B 23 v + 1 := by rw [fA_of (va_up_self _ _ _), upd_s, e23]; rfl
    exact hz_iret (pc := 101) (hz_dec kX12_receive 44 rfl) rfl ⟨⟨_, rfl⟩, rfl, (hm1.mono rfl rfl).tr (hm2.mono rfl rfl), hE1.upA (by decide), hg2, hcw1.tr (cvK.mf (bl := ksB S) (en := enB (ksB S)) hm2 rfl rfl rfl rfl).w, by rw [eR]; exact hmg1.mf hm2 rfl rfl, by rw [fA_m hm2 (by decide) rfl]; exact e22, by rw [eR]; exact e232, fun _ => by rw [eR]; exact ⟨hmn1.mf hm2 rfl rfl, hor1.mf hm2 rfl⟩, fun q => by rw [eR] at q; cases q⟩
set_option maxHeartbeats 4000000 in
set_option maxRecDepth 100000 in
theorem c_rcv3 {κ : hz_C} {z B nn v : Nat} {now fr : Int32} {dl : Nat → Nat} (hnn : nn ≤ 6) (hvn : v < nn) {d : Nat} (hto : (∃ b, b < 6 ∧ fr = nI b ∧ d = dl (6 * v + b)) ∨ (fr < 0 ∧ d = 0)) {M : hz_M} {S : ks_S} {l : by_L} (hk0 : md_k B M z) (hE : mdE M B) (hmg : mgR M B nn now dl (ksQ S)) (hmn : mnS M B v 1 S (pvI (ksF S)) (ksP S)) (hor : orX (fA M B) v (mkO (ksL S))) (hI : ksI S) (hl4 : l.length ≤ 4000) (h78 : isA (fA M B 78) 0 l) (h92 : fdB M B 92 = some (.int (nI l.length))) : hz_Mt κ xX12_receive 23 0 0 [.ref B, .int (nI v), .int fr, .int (nI 3)] z M (rvP M z B nn v now dl (rvS nn dl now v fr d S 3 l)) := by
  refine hz_ent (lo := [(0, .ref B), (1, .int (nI v)), (2, .int fr), (3, .int (nI 3))]) (by decide) (Nat.le_of_ble_eq_true rfl) rfl ?_
  obtain ⟨⟨fs, hO, hF⟩, -, -, h8, hz⟩ := id hk0
  have hv6 : v < 6 := by omega
  refine hz_aloadn (pc := 0) 0 (hz_dec kX12_receive 0 rfl) rfl ?_
  refine hz_get (pc := 1) (v := .ref (B + 22)) (hz_dec kX12_receive 1 rfl) fo_X12_77 hO h8 (by omega) (hF.2 24 (by decide) (by decide)) ?_
  refine hz_iloadn (pc := 4) 1 (hz_dec kX12_receive 2 rfl) rfl ?_
  refine hz_dup2 (pc := 5) (hz_dec kX12_receive 3 rfl) rfl rfl ?_
  refine hz_iald (pc := 6) (j := v) (hz_dec kX12_receive 4 rfl) hE.a22 (by omega) (by omega) rfl (by omega) (by decide) ?_
  refine hz_iconst (pc := 7) (v := nI 1) (hz_dec kX12_receive 5 rfl) (by decide) ?_
  refine hz_iadd (pc := 8) (hz_dec kX12_receive 6 rfl) ?_
  refine hz_iast (pc := 9) (j := v) (hz_dec kX12_receive 7 rfl) hE.a22 (by omega) (by omega) rfl (by omega) (by decide) ?_
  have hm1 : mfr B [] [22] M (va_up M (B + 22) (.inl (0, 6, .inl (upd (fA M B 22) v ((((fA M B 22) v) + (nI (1)))))))) := (mfr.rf ⟨fs, hO, hF⟩).upA (o := 22) rfl (by decide)
  have hE1 : mdE (va_up M (B + 22) (.inl (0, 6, .inl (upd (fA M B 22) v ((((fA M B 22) v) + (nI (1)))))))) B := hE.upA (by decide)
  have hg1 : agV M (va_up M (B + 22) (.inl (0, 6, .inl (upd (fA M B 22) v ((((fA M B 22) v) + (nI (1)))))))) B v := agV.upA (s := 1) agV.rf rfl rfl (fun x hx => upd_o (by omega))
  have e22 : fA (va_up M (B + 22) (.inl (0, 6, .inl (upd (fA M B 22) v ((((fA M B 22) v) + (nI (1)))))))) B 22 v = fA M B 22 v + 1 := by rw [fA_of (va_up_self _ _ _), upd_s]; rfl
  generalize (va_up M (B + 22) (.inl (0, 6, .inl (upd (fA M B 22) v ((((fA M B 22) v) + (nI (1)))))))) = M1 at *
  have hk1 := hk0.mf hm1 rfl rfl
  have hmg1 := hmg.mf hm1 rfl rfl
  have hmn1 := hmn.mf hm1 rfl rfl
  have hor1 := hor.mf hm1 rfl
  have h781 : isA (fA M1 B 78) 0 l := by rw [fA_m hm1 (by decide) rfl]; exact h78
  have h921 := (hm1.2.2 92 rfl).trans h92
  have e23 : fA M1 B 23 = fA M B 23 := fA_m hm1 (by decide) rfl
  have hcw1 : cvW M M1 B v := (cvK.mf (bl := ksB S) (en := enB (ksB S)) hm1 rfl rfl rfl rfl).w
  obtain ⟨fs1, hO1, hF1⟩ := id hm1.2.1
  refine hz_iloadn (pc := 10) 3 (hz_dec kX12_receive 8 rfl) rfl ?_
  refine hz_swIn (pc := 11) (off := 91) (tgt := 102) (hz_dec kX12_receive 9 rfl) (by decide) (by decide) rfl (by decide) ?_
  refine hz_aloadn (pc := 102) 0 (hz_dec kX12_receive 45 rfl) rfl ?_
  refine hz_bipush (pc := 103) (v := nI 80) (hz_dec kX12_receive 46 rfl) (by decide) ?_
  refine hz_xV (pc := 105) (a := B) (As := [.int (nI 80)]) (st := []) (hz_dec kX12_receive 47 rfl) co_X12_640 im_X12_isRow se_X12_isRow rfl hO1 h8 (by omega) (c_isRow80 hm1.2.1 h8 hz hl4 h921) rfl (by decide) ⟨Nat.le_refl _, Nat.le_refl _⟩ (Nat.le_of_ble_eq_true rfl) rfl ?_
  refine hz_if_eq (pc := 108) (tgt := 120) (hz_dec kX12_receive 48 rfl) (by decide) (fun h1 => ?_) (fun h1 => ?_)
  · skip
    have e9 : rwO (rwU 3) l = false := hz_b0 h1
    have eQ : hrQ now v fr d S 3 l = ksQ S := by unfold hrQ; rw [e9]; rfl
    have eR : rvS nn dl now v fr d S 3 l = (S, true, true) := by rw [rvS_h (by decide), eQ, e9]; rfl
    refine hz_aloadn (pc := 120) 0 (hz_dec kX12_receive 54 rfl) rfl ?_
    refine hz_get (pc := 121) (v := .ref (B + 23)) (hz_dec kX12_receive 55 rfl) fo_X12_80 hO1 h8 (by omega) (hF1.2 25 (by decide) (by decide)) ?_
    refine hz_iloadn (pc := 124) 1 (hz_dec kX12_receive 56 rfl) rfl ?_
    refine hz_dup2 (pc := 125) (hz_dec kX12_receive 57 rfl) rfl rfl ?_
    refine hz_iald (pc := 126) (j := v) (hz_dec kX12_receive 58 rfl) hE1.a23 (by omega) (by omega) rfl (by omega) (by decide) ?_
    refine hz_iconst (pc := 127) (v := nI 1) (hz_dec kX12_receive 59 rfl) (by decide) ?_
    refine hz_iadd (pc := 128) (hz_dec kX12_receive 60 rfl) ?_
    refine hz_iast (pc := 129) (j := v) (hz_dec kX12_receive 61 rfl) hE1.a23 (by omega) (by omega) rfl (by omega) (by decide) ?_
    refine hz_iconst (pc := 130) (v := (-1)) (hz_dec kX12_receive 62 rfl) (by decide) ?_
    have hm2 : mfr B [] [23] M1 (va_up M1 (B + 23) (.inl (0, 6, .inl (upd (fA M1 B 23) v ((((fA M1 B 23) v) + (nI (1)))))))) := (mfr.rf ⟨fs1, hO1, hF1⟩).upA (o := 23) rfl (by decide)
    have hg2 : agV M (va_up M1 (B + 23) (.inl (0, 6, .inl (upd (fA M1 B 23) v ((((fA M1 B 23) v) + (nI (1)))))))) B v := agV.upA (s := 1) hg1 rfl rfl (fun x hx => upd_o (by omega))
    have e232 : fA (va_up M1 (B + 23) (.inl (0, 6, .inl (upd (fA M1 B 23) v ((((fA M1 B 23) v) + (nI (1)))))))) B 23 v = fA M B 23 v + 1 := by rw [fA_of (va_up_self _ _ _), upd_s, e23]; rfl
    exact hz_iret (pc := 131) (hz_dec kX12_receive 63 rfl) rfl ⟨⟨_, rfl⟩, rfl, (hm1.mono rfl rfl).tr (hm2.mono rfl rfl), hE1.upA (by decide), hg2, hcw1.tr (cvK.mf (bl := ksB S) (en := enB (ksB S)) hm2 rfl rfl rfl rfl).w, by rw [eR]; exact hmg1.mf hm2 rfl rfl, by rw [fA_m hm2 (by decide) rfl]; exact e22, by rw [eR]; exact e232, fun _ => by rw [eR]; exact ⟨hmn1.mf hm2 rfl rfl, hor1.mf hm2 rfl⟩, fun q => by rw [eR] at q; cases q⟩
  · skip
    have e9 : rwO (rwU 3) l = true := hz_b1 h1
    have eq9 := of_decide_eq_true e9
    have hu9 : rwU 3 = 80 := rfl
    rw [hu9] at eq9
    refine hz_aloadn (pc := 111) 0 (hz_dec kX12_receive 49 rfl) rfl ?_
    refine hz_iloadn (pc := 112) 1 (hz_dec kX12_receive 50 rfl) rfl ?_
    refine hz_iloadn (pc := 113) 2 (hz_dec kX12_receive 51 rfl) rfl ?_
    refine hz_callV (pc := 114) (a := B) (As := [.int (nI v), .int fr]) (st := []) (hz_dec kX12_receive 52 rfl) co_X12_652 im_X12_receiveHeaders se_X12_receiveHeaders rfl hO1 h8 (by omega) (c_rHead (n := l.length / 80) hv6 hto hk1 hmg1 hmn1.2.2.2.2.1 hI hl4 h781 h921 (by omega) (by omega) hE1) rfl (by decide) ⟨Nat.le_refl _, Nat.le_refl _⟩ (Nat.le_of_ble_eq_true rfl) rfl (fun r9 z9 M2 hp9 => ?_)
    obtain ⟨rfl, rfl, hf2, hE2, hmg2⟩ := hp9
    have eQ : hrQ now v fr d S 3 l = hsQ now v fr d S l (l.length / 80) := by unfold hrQ; rw [if_pos e9]; rfl
    have eR : rvS nn dl now v fr d S 3 l = (ksq S (hsQ now v fr d S l (l.length / 80)), true, false) := by rw [rvS_h (by decide), eQ, e9]; rfl
    refine hz_goto (pc := 117) (tgt := 130) (hz_dec kX12_receive 53 rfl) (by decide) ?_
    refine hz_iconst (pc := 130) (v := (-1)) (hz_dec kX12_receive 62 rfl) (by decide) ?_
    have hmn2 : mnS M2 B v 1 S (pvI (ksF S)) (ksP S) := hmn1.mh hf2 rfl rfl rfl rfl rfl rfl rfl rfl rfl rfl rfl rfl rfl rfl rfl
    exact hz_iret (pc := 131) (hz_dec kX12_receive 63 rfl) rfl ⟨⟨_, rfl⟩, rfl, (hm1.mono rfl rfl).tr (hf2.mono rfl rfl), hE2, hg1.tr (agV.mf hf2 rfl rfl), hcw1.tr (cvK.mf (bl := ksB S) (en := enB (ksB S)) hf2 rfl rfl rfl rfl).w, by rw [eR]; exact hmg2, by rw [fA_m hf2 (by decide) rfl]; exact e22, by rw [eR, fA_m hf2 (by decide) rfl, e23]; rfl, fun _ => by rw [eR]; exact ⟨hmn2, hor1.mf hf2 rfl⟩, fun q => by rw [eR] at q; cases q⟩
set_option maxHeartbeats 4000000 in
set_option maxRecDepth 100000 in
theorem c_rcv4 {κ : hz_C} {z B nn v : Nat} {now fr : Int32} {dl : Nat → Nat} (hnn : nn ≤ 6) (hvn : v < nn) {d : Nat} (hto : (∃ b, b < 6 ∧ fr = nI b ∧ d = dl (6 * v + b)) ∨ (fr < 0 ∧ d = 0)) {M : hz_M} {S : ks_S} {l : by_L} (hk0 : md_k B M z) (hE : mdE M B) (hmg : mgR M B nn now dl (ksQ S)) (hmn : mnS M B v 1 S (pvI (ksF S)) (ksP S)) (hor : orX (fA M B) v (mkO (ksL S))) (hI : ksI S) (hl4 : l.length ≤ 4000) (h78 : isA (fA M B 78) 0 l) (h92 : fdB M B 92 = some (.int (nI l.length))) : hz_Mt κ xX12_receive 23 0 0 [.ref B, .int (nI v), .int fr, .int (nI 4)] z M (rvP M z B nn v now dl (rvS nn dl now v fr d S 4 l)) := by
  refine hz_ent (lo := [(0, .ref B), (1, .int (nI v)), (2, .int fr), (3, .int (nI 4))]) (by decide) (Nat.le_of_ble_eq_true rfl) rfl ?_
  obtain ⟨⟨fs, hO, hF⟩, -, -, h8, hz⟩ := id hk0
  have hv6 : v < 6 := by omega
  refine hz_aloadn (pc := 0) 0 (hz_dec kX12_receive 0 rfl) rfl ?_
  refine hz_get (pc := 1) (v := .ref (B + 22)) (hz_dec kX12_receive 1 rfl) fo_X12_77 hO h8 (by omega) (hF.2 24 (by decide) (by decide)) ?_
  refine hz_iloadn (pc := 4) 1 (hz_dec kX12_receive 2 rfl) rfl ?_
  refine hz_dup2 (pc := 5) (hz_dec kX12_receive 3 rfl) rfl rfl ?_
  refine hz_iald (pc := 6) (j := v) (hz_dec kX12_receive 4 rfl) hE.a22 (by omega) (by omega) rfl (by omega) (by decide) ?_
  refine hz_iconst (pc := 7) (v := nI 1) (hz_dec kX12_receive 5 rfl) (by decide) ?_
  refine hz_iadd (pc := 8) (hz_dec kX12_receive 6 rfl) ?_
  refine hz_iast (pc := 9) (j := v) (hz_dec kX12_receive 7 rfl) hE.a22 (by omega) (by omega) rfl (by omega) (by decide) ?_
  have hm1 : mfr B [] [22] M (va_up M (B + 22) (.inl (0, 6, .inl (upd (fA M B 22) v ((((fA M B 22) v) + (nI (1)))))))) := (mfr.rf ⟨fs, hO, hF⟩).upA (o := 22) rfl (by decide)
  have hE1 : mdE (va_up M (B + 22) (.inl (0, 6, .inl (upd (fA M B 22) v ((((fA M B 22) v) + (nI (1)))))))) B := hE.upA (by decide)
  have hg1 : agV M (va_up M (B + 22) (.inl (0, 6, .inl (upd (fA M B 22) v ((((fA M B 22) v) + (nI (1)))))))) B v := agV.upA (s := 1) agV.rf rfl rfl (fun x hx => upd_o (by omega))
  have e22 : fA (va_up M (B + 22) (.inl (0, 6, .inl (upd (fA M B 22) v ((((fA M B 22) v) + (nI (1)))))))) B 22 v = fA M B 22 v + 1 := by rw [fA_of (va_up_self _ _ _), upd_s]; rfl
  generalize (va_up M (B + 22) (.inl (0, 6, .inl (upd (fA M B 22) v ((((fA M B 22) v) + (nI (1)))))))) = M1 at *
  have hk1 := hk0.mf hm1 rfl rfl
  have hmg1 := hmg.mf hm1 rfl rfl
  have hmn1 := hmn.mf hm1 rfl rfl
  have hor1 := hor.mf hm1 rfl
  have h781 : isA (fA M1 B 78) 0 l := by rw [fA_m hm1 (by decide) rfl]; exact h78
  have h921 := (hm1.2.2 92 rfl).trans h92
  have e23 : fA M1 B 23 = fA M B 23 := fA_m hm1 (by decide) rfl
  have hcw1 : cvW M M1 B v := (cvK.mf (bl := ksB S) (en := enB (ksB S)) hm1 rfl rfl rfl rfl).w
  obtain ⟨fs1, hO1, hF1⟩ := id hm1.2.1
  refine hz_iloadn (pc := 10) 3 (hz_dec kX12_receive 8 rfl) rfl ?_
  refine hz_swIn (pc := 11) (off := 33) (tgt := 44) (hz_dec kX12_receive 9 rfl) (by decide) (by decide) rfl (by decide) ?_
  refine hz_aloadn (pc := 44) 0 (hz_dec kX12_receive 10 rfl) rfl ?_
  refine hz_bipush (pc := 45) (v := nI 32) (hz_dec kX12_receive 11 rfl) (by decide) ?_
  refine hz_xV (pc := 47) (a := B) (As := [.int (nI 32)]) (st := []) (hz_dec kX12_receive 12 rfl) co_X12_640 im_X12_isRow se_X12_isRow rfl hO1 h8 (by omega) (c_isRow32 hm1.2.1 h8 hz hl4 h921) rfl (by decide) ⟨Nat.le_refl _, Nat.le_refl _⟩ (Nat.le_of_ble_eq_true rfl) rfl ?_
  refine hz_if_ne (pc := 50) (tgt := 66) (hz_dec kX12_receive 13 rfl) (by decide) (fun h1 => ?_) (fun h1 => ?_)
  · skip
    have e9 : rwO (rwU 4) l = true := hz_b1 h1
    have eq9 := of_decide_eq_true e9
    have hu9 : rwU 4 = 32 := rfl
    rw [hu9] at eq9
    refine hz_iloadn (pc := 66) 3 (hz_dec kX12_receive 23 rfl) rfl ?_
    refine hz_iconst (pc := 67) (v := nI 1) (hz_dec kX12_receive 24 rfl) (by decide) ?_
    refine hz_n_ne (pc := 68) (tgt := 80) (hz_dec kX12_receive 25 rfl) (by decide) (by omega) (by omega) (fun h2 => ?_) (fun h2 => ?_)
    · skip
      refine hz_iloadn (pc := 80) 3 (hz_dec kX12_receive 31 rfl) rfl ?_
      refine hz_iconst (pc := 81) (v := nI 2) (hz_dec kX12_receive 32 rfl) (by decide) ?_
      refine hz_n_ne (pc := 82) (tgt := 94) (hz_dec kX12_receive 33 rfl) (by decide) (by omega) (by omega) (fun h3 => ?_) (fun h3 => ?_)
      · skip
        refine hz_aloadn (pc := 94) 0 (hz_dec kX12_receive 39 rfl) rfl ?_
        refine hz_iloadn (pc := 95) 1 (hz_dec kX12_receive 40 rfl) rfl ?_
        refine hz_iloadn (pc := 96) 2 (hz_dec kX12_receive 41 rfl) rfl ?_
        refine hz_callV (pc := 97) (a := B) (As := [.int (nI v), .int fr]) (st := []) (hz_dec kX12_receive 42 rfl) co_X12_649 im_X12_receiveGet se_X12_receiveGet rfl hO1 h8 (by omega) (c_rGet (n := l.length / 32) hnn hvn hto hk1 hE1 hmg1 hmn1.2.2.2.2.1 hI hl4 h781 h921 (by omega) (by omega)) rfl (by decide) ⟨Nat.le_refl _, Nat.le_refl _⟩ (Nat.le_of_ble_eq_true rfl) rfl (fun r9 z9 M2 hp9 => ?_)
        obtain ⟨rfl, rfl, hf2, hE2, hmg2⟩ := hp9
        have eQ : hrQ now v fr d S 4 l = gtQ now v fr d (ksB S) l (l.length / 32) (ksQ S) := by unfold hrQ; rw [if_pos e9]; rfl
        have eR : rvS nn dl now v fr d S 4 l = (ksq S (gtQ now v fr d (ksB S) l (l.length / 32) (ksQ S)), true, false) := by rw [rvS_h (by decide), eQ, e9]; rfl
        refine hz_iconst (pc := 100) (v := (-1)) (hz_dec kX12_receive 43 rfl) (by decide) ?_
        have hmn2 : mnS M2 B v 1 S (pvI (ksF S)) (ksP S) := hmn1.mh hf2 rfl rfl rfl rfl rfl rfl rfl rfl rfl rfl rfl rfl rfl rfl rfl
        exact hz_iret (pc := 101) (hz_dec kX12_receive 44 rfl) rfl ⟨⟨_, rfl⟩, rfl, (hm1.mono rfl rfl).tr (hf2.mono rfl rfl), hE2, hg1.tr (agV.mf hf2 rfl rfl), hcw1.tr (cvK.mf (bl := ksB S) (en := enB (ksB S)) hf2 rfl rfl rfl rfl).w, by rw [eR]; exact hmg2, by rw [fA_m hf2 (by decide) rfl]; exact e22, by rw [eR, fA_m hf2 (by decide) rfl, e23]; rfl, fun _ => by rw [eR]; exact ⟨hmn2, hor1.mf hf2 rfl⟩, fun q => by rw [eR] at q; cases q⟩
      · skip
        exact absurd h3 (by decide)
    · skip
      exact absurd h2 (by decide)
  · skip
    have e9 : rwO (rwU 4) l = false := hz_b0 h1
    have eQ : hrQ now v fr d S 4 l = ksQ S := by unfold hrQ; rw [e9]; rfl
    have eR : rvS nn dl now v fr d S 4 l = (S, true, true) := by rw [rvS_h (by decide), eQ, e9]; rfl
    refine hz_aloadn (pc := 53) 0 (hz_dec kX12_receive 14 rfl) rfl ?_
    refine hz_get (pc := 54) (v := .ref (B + 23)) (hz_dec kX12_receive 15 rfl) fo_X12_80 hO1 h8 (by omega) (hF1.2 25 (by decide) (by decide)) ?_
    refine hz_iloadn (pc := 57) 1 (hz_dec kX12_receive 16 rfl) rfl ?_
    refine hz_dup2 (pc := 58) (hz_dec kX12_receive 17 rfl) rfl rfl ?_
    refine hz_iald (pc := 59) (j := v) (hz_dec kX12_receive 18 rfl) hE1.a23 (by omega) (by omega) rfl (by omega) (by decide) ?_
    refine hz_iconst (pc := 60) (v := nI 1) (hz_dec kX12_receive 19 rfl) (by decide) ?_
    refine hz_iadd (pc := 61) (hz_dec kX12_receive 20 rfl) ?_
    refine hz_iast (pc := 62) (j := v) (hz_dec kX12_receive 21 rfl) hE1.a23 (by omega) (by omega) rfl (by omega) (by decide) ?_
    refine hz_goto (pc := 63) (tgt := 100) (hz_dec kX12_receive 22 rfl) (by decide) ?_
    refine hz_iconst (pc := 100) (v := (-1)) (hz_dec kX12_receive 43 rfl) (by decide) ?_
    have hm2 : mfr B [] [23] M1 (va_up M1 (B + 23) (.inl (0, 6, .inl (upd (fA M1 B 23) v ((((fA M1 B 23) v) + (nI (1)))))))) := (mfr.rf ⟨fs1, hO1, hF1⟩).upA (o := 23) rfl (by decide)
    have hg2 : agV M (va_up M1 (B + 23) (.inl (0, 6, .inl (upd (fA M1 B 23) v ((((fA M1 B 23) v) + (nI (1)))))))) B v := agV.upA (s := 1) hg1 rfl rfl (fun x hx => upd_o (by omega))
    have e232 : fA (va_up M1 (B + 23) (.inl (0, 6, .inl (upd (fA M1 B 23) v ((((fA M1 B 23) v) + (nI (1)))))))) B 23 v = fA M B 23 v + 1 := by rw [fA_of (va_up_self _ _ _), upd_s, e23]; rfl
    exact hz_iret (pc := 101) (hz_dec kX12_receive 44 rfl) rfl ⟨⟨_, rfl⟩, rfl, (hm1.mono rfl rfl).tr (hm2.mono rfl rfl), hE1.upA (by decide), hg2, hcw1.tr (cvK.mf (bl := ksB S) (en := enB (ksB S)) hm2 rfl rfl rfl rfl).w, by rw [eR]; exact hmg1.mf hm2 rfl rfl, by rw [fA_m hm2 (by decide) rfl]; exact e22, by rw [eR]; exact e232, fun _ => by rw [eR]; exact ⟨hmn1.mf hm2 rfl rfl, hor1.mf hm2 rfl⟩, fun q => by rw [eR] at q; cases q⟩
set_option maxHeartbeats 4000000 in
set_option maxRecDepth 100000 in
theorem c_rcv5 {κ : hz_C} {z B nn v : Nat} {now fr : Int32} {dl : Nat → Nat} (hnn : nn ≤ 6) (hvn : v < nn) {d : Nat} (hto : (∃ b, b < 6 ∧ fr = nI b ∧ d = dl (6 * v + b)) ∨ (fr < 0 ∧ d = 0)) {M : hz_M} {S : ks_S} {l : by_L} (hk0 : md_k B M z) (hE : mdE M B) (hmg : mgR M B nn now dl (ksQ S)) (hmn : mnS M B v 1 S (pvI (ksF S)) (ksP S)) (hor : orX (fA M B) v (mkO (ksL S))) (hI : ksI S) (hl4 : l.length ≤ 4000) (h78 : isA (fA M B 78) 0 l) (h92 : fdB M B 92 = some (.int (nI l.length))) : hz_Mt κ xX12_receive 23 0 0 [.ref B, .int (nI v), .int fr, .int (nI 5)] z M (rvP M z B nn v now dl (rvS nn dl now v fr d S 5 l)) := by
  refine hz_ent (lo := [(0, .ref B), (1, .int (nI v)), (2, .int fr), (3, .int (nI 5))]) (by decide) (Nat.le_of_ble_eq_true rfl) rfl ?_
  obtain ⟨⟨fs, hO, hF⟩, -, -, h8, hz⟩ := id hk0
  have hv6 : v < 6 := by omega
  refine hz_aloadn (pc := 0) 0 (hz_dec kX12_receive 0 rfl) rfl ?_
  refine hz_get (pc := 1) (v := .ref (B + 22)) (hz_dec kX12_receive 1 rfl) fo_X12_77 hO h8 (by omega) (hF.2 24 (by decide) (by decide)) ?_
  refine hz_iloadn (pc := 4) 1 (hz_dec kX12_receive 2 rfl) rfl ?_
  refine hz_dup2 (pc := 5) (hz_dec kX12_receive 3 rfl) rfl rfl ?_
  refine hz_iald (pc := 6) (j := v) (hz_dec kX12_receive 4 rfl) hE.a22 (by omega) (by omega) rfl (by omega) (by decide) ?_
  refine hz_iconst (pc := 7) (v := nI 1) (hz_dec kX12_receive 5 rfl) (by decide) ?_
  refine hz_iadd (pc := 8) (hz_dec kX12_receive 6 rfl) ?_
  refine hz_iast (pc := 9) (j := v) (hz_dec kX12_receive 7 rfl) hE.a22 (by omega) (by omega) rfl (by omega) (by decide) ?_
  have hm1 : mfr B [] [22] M (va_up M (B + 22) (.inl (0, 6, .inl (upd (fA M B 22) v ((((fA M B 22) v) + (nI (1)))))))) := (mfr.rf ⟨fs, hO, hF⟩).upA (o := 22) rfl (by decide)
  have hE1 : mdE (va_up M (B + 22) (.inl (0, 6, .inl (upd (fA M B 22) v ((((fA M B 22) v) + (nI (1)))))))) B := hE.upA (by decide)
  have hg1 : agV M (va_up M (B + 22) (.inl (0, 6, .inl (upd (fA M B 22) v ((((fA M B 22) v) + (nI (1)))))))) B v := agV.upA (s := 1) agV.rf rfl rfl (fun x hx => upd_o (by omega))
  have e22 : fA (va_up M (B + 22) (.inl (0, 6, .inl (upd (fA M B 22) v ((((fA M B 22) v) + (nI (1)))))))) B 22 v = fA M B 22 v + 1 := by rw [fA_of (va_up_self _ _ _), upd_s]; rfl
  generalize (va_up M (B + 22) (.inl (0, 6, .inl (upd (fA M B 22) v ((((fA M B 22) v) + (nI (1)))))))) = M1 at *
  have hk1 := hk0.mf hm1 rfl rfl
  have hmg1 := hmg.mf hm1 rfl rfl
  have hmn1 := hmn.mf hm1 rfl rfl
  have hor1 := hor.mf hm1 rfl
  have h781 : isA (fA M1 B 78) 0 l := by rw [fA_m hm1 (by decide) rfl]; exact h78
  have h921 := (hm1.2.2 92 rfl).trans h92
  have e23 : fA M1 B 23 = fA M B 23 := fA_m hm1 (by decide) rfl
  have hcw1 : cvW M M1 B v := (cvK.mf (bl := ksB S) (en := enB (ksB S)) hm1 rfl rfl rfl rfl).w
  obtain ⟨fs1, hO1, hF1⟩ := id hm1.2.1
  refine hz_iloadn (pc := 10) 3 (hz_dec kX12_receive 8 rfl) rfl ?_
  refine hz_swIn (pc := 11) (off := 121) (tgt := 132) (hz_dec kX12_receive 9 rfl) (by decide) (by decide) rfl (by decide) ?_
  refine hz_aloadn (pc := 132) 0 (hz_dec kX12_receive 64 rfl) rfl ?_
  refine hz_iloadn (pc := 133) 1 (hz_dec kX12_receive 65 rfl) rfl ?_
  refine hz_iloadn (pc := 134) 2 (hz_dec kX12_receive 66 rfl) rfl ?_
  refine hz_callV (pc := 135) (a := B) (As := [.int (nI v), .int fr]) (st := []) (hz_dec kX12_receive 67 rfl) co_X12_655 im_X12_receiveBlock se_X12_receiveBlock rfl hO1 h8 (by omega) (c_rcvB hnn hvn hto hk1 hE1 hmg1 hmn1 hor1 hI hl4 h781 h921) rfl (by decide) ⟨Nat.le_refl _, Nat.le_refl _⟩ (Nat.le_of_ble_eq_true rfl) rfl (fun r9 z9 M2 hp9 => ?_)
  obtain ⟨rfl, rfl, hf2, hE2, hg2, hcw2, hmg2, h232, hup2, hdn2⟩ := hp9
  exact hz_iret (pc := 138) (hz_dec kX12_receive 68 rfl) rfl ⟨⟨_, rfl⟩, rfl, (hm1.mono rfl rfl).tr (hf2.mono rfl rfl), hE2, hg1.tr hg2, hcw1.tr hcw2, hmg2, by rw [fA_m hf2 (by decide) rfl]; exact e22, by rw [h232, e23, rvS_5]; by_cases q : ksJ S l = 1; rw [if_pos q, if_pos (decide_eq_true q)]; rw [if_neg q, if_neg (fun c => q (of_decide_eq_true c))], hup2, hdn2⟩
set_option maxHeartbeats 4000000 in
set_option maxRecDepth 100000 in
theorem c_rcv6 {κ : hz_C} {z B nn v : Nat} {now fr : Int32} {dl : Nat → Nat} (hnn : nn ≤ 6) (hvn : v < nn) {d : Nat} (hto : (∃ b, b < 6 ∧ fr = nI b ∧ d = dl (6 * v + b)) ∨ (fr < 0 ∧ d = 0)) {M : hz_M} {S : ks_S} {l : by_L} (hk0 : md_k B M z) (hE : mdE M B) (hmg : mgR M B nn now dl (ksQ S)) (hmn : mnS M B v 1 S (pvI (ksF S)) (ksP S)) (hor : orX (fA M B) v (mkO (ksL S))) (hI : ksI S) (hl4 : l.length ≤ 4000) (h78 : isA (fA M B 78) 0 l) (h92 : fdB M B 92 = some (.int (nI l.length))) : hz_Mt κ xX12_receive 23 0 0 [.ref B, .int (nI v), .int fr, .int (nI 6)] z M (rvP M z B nn v now dl (rvS nn dl now v fr d S 6 l)) := by
  refine hz_ent (lo := [(0, .ref B), (1, .int (nI v)), (2, .int fr), (3, .int (nI 6))]) (by decide) (Nat.le_of_ble_eq_true rfl) rfl ?_
  obtain ⟨⟨fs, hO, hF⟩, -, -, h8, hz⟩ := id hk0
  have hv6 : v < 6 := by omega
  refine hz_aloadn (pc := 0) 0 (hz_dec kX12_receive 0 rfl) rfl ?_
  refine hz_get (pc := 1) (v := .ref (B + 22)) (hz_dec kX12_receive 1 rfl) fo_X12_77 hO h8 (by omega) (hF.2 24 (by decide) (by decide)) ?_
  refine hz_iloadn (pc := 4) 1 (hz_dec kX12_receive 2 rfl) rfl ?_
  refine hz_dup2 (pc := 5) (hz_dec kX12_receive 3 rfl) rfl rfl ?_
  refine hz_iald (pc := 6) (j := v) (hz_dec kX12_receive 4 rfl) hE.a22 (by omega) (by omega) rfl (by omega) (by decide) ?_
  refine hz_iconst (pc := 7) (v := nI 1) (hz_dec kX12_receive 5 rfl) (by decide) ?_
  refine hz_iadd (pc := 8) (hz_dec kX12_receive 6 rfl) ?_
  refine hz_iast (pc := 9) (j := v) (hz_dec kX12_receive 7 rfl) hE.a22 (by omega) (by omega) rfl (by omega) (by decide) ?_
  have hm1 : mfr B [] [22] M (va_up M (B + 22) (.inl (0, 6, .inl (upd (fA M B 22) v ((((fA M B 22) v) + (nI (1)))))))) := (mfr.rf ⟨fs, hO, hF⟩).upA (o := 22) rfl (by decide)
  have hE1 : mdE (va_up M (B + 22) (.inl (0, 6, .inl (upd (fA M B 22) v ((((fA M B 22) v) + (nI (1)))))))) B := hE.upA (by decide)
  have hg1 : agV M (va_up M (B + 22) (.inl (0, 6, .inl (upd (fA M B 22) v ((((fA M B 22) v) + (nI (1)))))))) B v := agV.upA (s := 1) agV.rf rfl rfl (fun x hx => upd_o (by omega))
  have e22 : fA (va_up M (B + 22) (.inl (0, 6, .inl (upd (fA M B 22) v ((((fA M B 22) v) + (nI (1)))))))) B 22 v = fA M B 22 v + 1 := by rw [fA_of (va_up_self _ _ _), upd_s]; rfl
  generalize (va_up M (B + 22) (.inl (0, 6, .inl (upd (fA M B 22) v ((((fA M B 22) v) + (nI (1)))))))) = M1 at *
  have hk1 := hk0.mf hm1 rfl rfl
  have hmg1 := hmg.mf hm1 rfl rfl
  have hmn1 := hmn.mf hm1 rfl rfl
  have hor1 := hor.mf hm1 rfl
  have h781 : isA (fA M1 B 78) 0 l := by rw [fA_m hm1 (by decide) rfl]; exact h78
  have h921 := (hm1.2.2 92 rfl).trans h92
  have e23 : fA M1 B 23 = fA M B 23 := fA_m hm1 (by decide) rfl
  have hcw1 : cvW M M1 B v := (cvK.mf (bl := ksB S) (en := enB (ksB S)) hm1 rfl rfl rfl rfl).w
  obtain ⟨fs1, hO1, hF1⟩ := id hm1.2.1
  refine hz_iloadn (pc := 10) 3 (hz_dec kX12_receive 8 rfl) rfl ?_
  refine hz_swOut (pc := 11) (tgt := 139) (hz_dec kX12_receive 9 rfl) (by decide) (by decide) ?_
  refine hz_aloadn (pc := 139) 0 (hz_dec kX12_receive 69 rfl) rfl ?_
  refine hz_iloadn (pc := 140) 1 (hz_dec kX12_receive 70 rfl) rfl ?_
  refine hz_iloadn (pc := 141) 2 (hz_dec kX12_receive 71 rfl) rfl ?_
  refine hz_callV (pc := 142) (a := B) (As := [.int (nI v), .int fr]) (st := []) (hz_dec kX12_receive 72 rfl) co_X12_658 im_X12_receiveTransaction se_X12_receiveTransaction rfl hO1 h8 (by omega) (c_rcvT hnn hvn hto hk1 hE1 hmg1 hmn1 hor1 hI hl4 h781 h921) rfl (by decide) ⟨Nat.le_refl _, Nat.le_refl _⟩ (Nat.le_of_ble_eq_true rfl) rfl (fun r9 z9 M2 hp9 => ?_)
  obtain ⟨rfl, rfl, hf2, hE2, hg2, hcw2, hmg2, h232, hmn2, hor2⟩ := hp9
  exact hz_iret (pc := 145) (hz_dec kX12_receive 73 rfl) rfl ⟨⟨_, rfl⟩, rfl, (hm1.mono rfl rfl).tr (hf2.mono rfl rfl), hE2, hg1.tr hg2, hcw1.tr hcw2, hmg2, by rw [fA_m hf2 (by decide) rfl]; exact e22, by rw [h232, e23, rvS_6]; by_cases q : ksV S l = 1; rw [if_pos q, if_pos (decide_eq_true q)]; rw [if_neg q, if_neg (fun c => q (of_decide_eq_true c))], fun _ => ⟨hmn2, hor2⟩, fun q => nomatch q⟩
