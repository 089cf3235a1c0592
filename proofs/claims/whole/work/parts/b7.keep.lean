/-! to keep a block: the class -/
theorem juS.al {M M2 : hz_M} {z : Nat} (h : juS M z) (e : ∀ q, 9 ≤ q → q < 39 → M2 q = M q) : juS M2 z := by
  obtain ⟨⟨bf, fe, hj⟩, ⟨s0, h34⟩, ⟨r0, h35⟩, ⟨g36, h36⟩, ⟨h0, h37⟩, ⟨i0, h38⟩, ⟨cs0, hc⟩, hk, hs, hw⟩ := h
  exact ⟨⟨bf, fe, (e 25 (by decide) (by decide)).trans hj⟩, ⟨_, (e 34 (by decide) (by decide)).trans h34⟩, ⟨_, (e 35 (by decide) (by decide)).trans h35⟩, ⟨_, (e 36 (by decide) (by decide)).trans h36⟩, ⟨_, (e 37 (by decide) (by decide)).trans h37⟩, ⟨_, (e 38 (by decide) (by decide)).trans h38⟩, ⟨_, hc.fr (fun q q1 q2 => e q (by omega) (by omega))⟩, hk.fs (e 9 (by decide) (by decide)) (e 13 (by decide) (by decide)), hs.fs (fun q q1 q2 => e q (by omega) (by omega)), hw.fs (fun q q1 q2 => e q (by omega) (by omega))⟩
theorem juS.w {M M2 : hz_M} {z : Nat} (h : juS M z) (e : ∀ q, 9 ≤ q → q < 20 ∨ 25 ≤ q → q < 39 → M2 q = M q) (hw2 : ck_w M2) : juS M2 z := by
  obtain ⟨⟨bf, fe, hj⟩, ⟨s0, h34⟩, ⟨r0, h35⟩, ⟨g36, h36⟩, ⟨h0, h37⟩, ⟨i0, h38⟩, ⟨cs0, hc⟩, hk, hs, hw⟩ := h
  exact ⟨⟨bf, fe, (e 25 (by decide) (by decide) (by decide)).trans hj⟩, ⟨_, (e 34 (by decide) (by decide) (by decide)).trans h34⟩, ⟨_, (e 35 (by decide) (by decide) (by decide)).trans h35⟩, ⟨_, (e 36 (by decide) (by decide) (by decide)).trans h36⟩, ⟨_, (e 37 (by decide) (by decide) (by decide)).trans h37⟩, ⟨_, (e 38 (by decide) (by decide) (by decide)).trans h38⟩, ⟨_, hc.fr (fun q q1 q2 => e q (by omega) (by omega) (by omega))⟩, hk.fs (e 9 (by decide) (by decide) (by decide)) (e 13 (by decide) (by decide) (by decide)), hs.fs (fun q q1 q2 => e q (by omega) (by omega) (by omega)), hw2⟩
/-- the class's side of a state -/
def kcR (M : hz_M) (z nb nn v tl : Nat) (tr now fr kn rc rf up : Int32) (dl : Nat → Nat) (ll : Nat) (S : ks_S) : Prop := M 8 = hoO tl tr ∧ nsR M nn ∧ M nb = ndO nb (nI v) up (nI (ksN S)) (pvI (ksF S)) rc rf ∧ (∃ g : Nat → Int32, M (nb + 1) = .inl (1, 12288, .inl g) ∧ ∀ j, j < 12288 → g j = ksD S j) ∧ trR M (nb + 21) (ksB S) (ksT S) (enB (ksB S)) ∧ coR M (nb + 2) (coAt (ksB S) (enB (ksB S)) (ksT S)) ∧ plR M nb (ksP S) ∧ loR M nb (ksL S) ∧ juS M z ∧ mlR M nn now (ksQ S) dl ll fr kn ∧ (∃ g : Nat → Int32, M 53 = .inl (1, 4000, .inl g)) ∧ (∃ L, rwR M 58 5728 16 L) ∧ ∃ g : Nat → Int32, M 61 = .inl (0, 113, .inl g)
/-- the letter and what the judge left of it -/
def kcJ (M : hz_M) (bl : List bk_B) (l : by_L) : Prop := (∃ g : Nat → Int32, M 53 = .inl (1, 4000, .inl g) ∧ isA g 0 l) ∧ (∃ fh : Nat → Int32, M 37 = .inl (1, 32, .inl fh) ∧ isA fh 0 (haS l)) ∧ (∃ fe, juO M (nI (pvF bl l)) fe) ∧ ∃ fi : Nat → Int64, M 38 = .inl (2, 8, .inr (.inl fi)) ∧ ∀ j, j < bkN l → fi j = idS (bkT l j)
def kcQ (M : hz_M) (z nb nn v tl : Nat) (tr now fr kn rc rf : Int32) (dl : Nat → Nat) (R : ks_S × Bool) : hz_P := fun r z2 M2 => some (.int (hz_b R.2)) = r ∧ z = z2 ∧ frS [(9, 39), (45, 54), (58, 62), (nb, nb + 34)] M M2 ∧ ∃ ll, kcR M2 z nb nn v tl tr now fr kn rc rf (hz_b R.2) dl ll R.1
def kcC (κ : hz_C) (z nb nn v tl : Nat) (tr now fr kn rc rf : Int32) (dl : Nat → Nat) (f d : Nat) : Prop := ∀ S l M, kcR M z nb nn v tl tr now fr kn rc rf (nI 1) dl l.length S → kcJ M (ksB S) l → ksI S → ksJ S l = 0 → (ksL S).length + d ≤ 8 → hz_Mt κ xX11_keep (f + 6) 0 0 [.ref 8, .ref nb, .int (nI d)] z M (kcQ M z nb nn v tl tr now fr kn rc rf dl (kp nn dl now v fr f S l))
set_option maxHeartbeats 4000000 in
set_option maxRecDepth 100000 in
theorem c_keep_l {κ : hz_C} {z nb nn v tl : Nat} {tr now fr kn rc rf : Int32} {dl : Nat → Nat} (hnb : 63 ≤ nb) (hnbz : nb + 34 ≤ z) (hnn : nn ≤ 6) (hvn : v < nn) {f d : Nat} (hfd : f + d = 8) (IH : kcC κ z nb nn v tl tr now fr kn rc rf dl f (d + 1)) {M0 : hz_M} {l : by_L} {n : Nat} {R0 : ks_S × Bool} : ∀ m i S M ll, m + i = 8 → frS [(9, 39), (45, 54), (58, 62), (nb, nb + 34)] M0 M → kcR M z nb nn v tl tr now fr kn rc rf (nI 1) dl ll S → ksI S → (ksL S).length + d ≤ 8 → n < (ksB S).length → bBy (ksB S) n = l → kpL (kp nn dl now v fr f) (haS l) m S = R0 → hz_W κ xX11_keep (f + 7) 0 0 (kcQ M0 z nb nn v tl tr now fr kn rc rf dl R0) 0 0 147 [(7, .int (nI i)), (5, .int (nI n)), (0, .ref 8), (1, .ref nb), (2, .int (nI d)), (3, .ref (nb + 21))] [] z M := by
  intro m
  induction m with
  | zero =>
    intro i S M ll hmi hfr hR hI hLd hn hnl hk
    have ei : i = 8 := by omega
    have ek : R0 = (S, true) := hk.symm
    refine hz_iload (pc := 147) 0 (hz_dec kX11_keep 71 rfl) rfl ?_
    refine hz_bipush (pc := 149) (v := nI 8) (hz_dec kX11_keep 72 rfl) (by decide) ?_
    refine hz_n_ge (pc := 151) (tgt := 263) (hz_dec kX11_keep 73 rfl) (by decide) (by omega) (by omega) (fun h1 => ?_) (fun h1 => ?_)
    · skip
      refine hz_iconst (pc := 263) (v := nI 1) (hz_dec kX11_keep 128 rfl) (by decide) ?_
      exact hz_zret (pc := 264) (hz_dec kX11_keep 129 rfl) rfl rfl ⟨by rw [ek]; rfl, rfl, hfr, ll, by rw [ek]; exact hR⟩
    · skip
      exact absurd h1 (by omega)
  | succ m ih =>
    intro i S M ll hmi hfr hR hI hLd hn hnl hk
    obtain ⟨hH, hNs, hN, ⟨gD, hD, hDX⟩, hT, hc, hp, hL, hJ, hml, ⟨g53, h53⟩, ⟨L58, h58⟩, g61, h61⟩ := id hR
    obtain ⟨i1, i2, i3, i4, i5⟩ := id hI
    have htop := i1.top
    have hz63 : 63 ≤ z := by omega
    refine hz_iload (pc := 147) 0 (hz_dec kX11_keep 71 rfl) rfl ?_
    refine hz_bipush (pc := 149) (v := nI 8) (hz_dec kX11_keep 72 rfl) (by decide) ?_
    refine hz_n_ge (pc := 151) (tgt := 263) (hz_dec kX11_keep 73 rfl) (by decide) (by omega) (by omega) (fun h1 => ?_) (fun h1 => ?_)
    · skip
      exact absurd h1 (by omega)
    · skip
      refine hz_iloadn (pc := 154) 4 (hz_dec kX11_keep 74 rfl) rfl ?_
      refine hz_bipush (pc := 155) (v := nI 8) (hz_dec kX11_keep 75 rfl) (by decide) ?_
      refine hz_n_ge (pc := 157) (tgt := 263) (hz_dec kX11_keep 76 rfl) (by decide) (by omega) (by omega) (fun h2 => ?_) (fun h2 => ?_)
      · skip
        have eR : R0 = (S, true) := by rw [← hk]; exact kpL_nil (by omega) _
        refine hz_iconst (pc := 263) (v := nI 1) (hz_dec kX11_keep 128 rfl) (by decide) ?_
        exact hz_zret (pc := 264) (hz_dec kX11_keep 129 rfl) rfl rfl ⟨by rw [eR]; rfl, rfl, hfr, ll, by rw [eR]; exact hR⟩
      · skip
        obtain ⟨hLO, hLle, hLoff, fa1, ga1, hfa1, hga1, hLX⟩ := id hL.1
        refine hz_aloadn (pc := 160) 3 (hz_dec kX11_keep 77 rfl) rfl ?_
        refine hz_iload (pc := 161) 1 (hz_dec kX11_keep 78 rfl) rfl ?_
        refine hz_xV (pc := 163) (a := nb) (As := [.int (nI n)]) (st := []) (hz_dec kX11_keep 79 rfl) co_X11_481 im_X6_lostBehind se_X6_lostBehind rfl hN (by omega) (by omega) (c_lBe hN hnb hnbz hL i5 hT hn) rfl (by omega) ⟨Nat.le_refl _, Nat.le_refl _⟩ (Nat.le_of_ble_eq_true rfl) rfl ?_
        rw [hnl]
        by_cases ck : loF (ksL S) (haS l) < (ksL S).length
        · skip
          refine hz_eqi (pc := 166) (show _ = nI (loF (ksL S) (haS l)) from if_pos ck) ?_
          generalize hkk : loF (ksL S) (haS l) = kk at *
          refine hz_istore (pc := 166) (i := 8) (lo2 := [(8, .int (nI kk)), (7, .int (nI i)), (5, .int (nI n)), (0, .ref 8), (1, .ref nb), (2, .int (nI d)), (3, .ref (nb + 21))]) (hz_dec kX11_keep 80 rfl) (by decide) rfl ?_
          refine hz_iload (pc := 168) 0 (hz_dec kX11_keep 81 rfl) rfl ?_
          refine hz_z_ge (pc := 170) (tgt := 175) (hz_dec kX11_keep 82 rfl) (by decide) (by omega) ?_
          have hWr : blW (rowL (ksL S) kk) := i5.2 kk ck
          have hlr := hWr.len
          have hPA := hLX.2 kk ck
          have ho1 := off_lo i5 kk (by omega)
          have hl8 := i5.1
          refine hz_aloadn (pc := 175) 3 (hz_dec kX11_keep 85 rfl) rfl ?_
          refine hz_get (pc := 176) (hz_dec kX11_keep 86 rfl) fo_X11_62 hH (by omega) (by omega) rfl ?_
          refine hz_aloadn (pc := 179) 4 (hz_dec kX11_keep 87 rfl) rfl ?_
          refine hz_get (pc := 180) (hz_dec kX11_keep 88 rfl) fo_X11_380 hN (by omega) (by omega) rfl ?_
          refine hz_get (pc := 183) (hz_dec kX11_keep 89 rfl) fo_X11_225 hLO (by omega) (by omega) rfl ?_
          refine hz_aloadn (pc := 186) 4 (hz_dec kX11_keep 90 rfl) rfl ?_
          refine hz_get (pc := 187) (hz_dec kX11_keep 91 rfl) fo_X11_380 hN (by omega) (by omega) rfl ?_
          refine hz_get (pc := 190) (hz_dec kX11_keep 92 rfl) fo_X11_228 hLO (by omega) (by omega) rfl ?_
          refine hz_iload (pc := 193) 0 (hz_dec kX11_keep 93 rfl) rfl ?_
          refine hz_iald (pc := 195) (j := kk) (hz_dec kX11_keep 94 rfl) hga1 (by omega) (by omega) rfl (by omega) (by omega) ?_
          refine hz_eqi (pc := 196) (hLX.1 (kk) (by omega)) ?_
          refine hz_aloadn (pc := 196) 4 (hz_dec kX11_keep 95 rfl) rfl ?_
          refine hz_get (pc := 197) (hz_dec kX11_keep 96 rfl) fo_X11_380 hN (by omega) (by omega) rfl ?_
          refine hz_iload (pc := 200) 0 (hz_dec kX11_keep 97 rfl) rfl ?_
          refine hz_xV (pc := 202) (a := nb + 15) (As := [.int (nI kk)]) (st := [.int (nI (offL (ksL S) kk)), .ref (nb + 15 + 1), .ref 45]) (hz_dec kX11_keep 98 rfl) co_X11_221 im_X7_lengthOf se_X7_lengthOf rfl hLO (by omega) (by omega) (c_lenOf hL.1 (by omega) (by omega) (by decide) (by decide) ck) rfl (by omega) ⟨Nat.le_refl _, Nat.le_refl _⟩ (Nat.le_of_ble_eq_true rfl) rfl ?_
          refine hz_callV (pc := 205) (a := 45) (As := [.ref (nb + 15 + 1), .int (nI (offL (ksL S) kk)), .int (nI ((rowL (ksL S) kk).length))]) (st := []) (hz_dec kX11_keep 99 rfl) co_X11_296 im_X5_hold se_X5_hold rfl hml.1 (by omega) (by omega) (c_hold hz63 hml.1 hnn hfa1 (by omega) (by omega) (by omega) (by decide) hPA (by omega) h53 (by omega)) rfl (by omega) ⟨Nat.le_refl _, Nat.le_refl _⟩ (Nat.le_of_ble_eq_true rfl) rfl (fun r9 z9 M1 hp9 => ?_)
          obtain ⟨rfl, rfl, hf1, hO1, gl, hgl, hglA⟩ := hp9
          have hH1 := (hf1.at2 (q := 8) (by omega)).trans hH
          have hNs1 : nsR M1 nn := by obtain ⟨f9, q1, q2⟩ := hNs; exact ⟨f9, (hf1.at2 (by omega)).trans q1, q2⟩
          have hN1 := (hf1.at2 (q := nb) (by omega)).trans hN
          have hD1 := (hf1.at2 (q := nb + 1) (by omega)).trans hD
          have hT1 := hT.fr (M2 := M1) (fun q q1 q2 => hf1.at2 (by omega))
          have hc1 := hc.fr (M2 := M1) (fun q q1 q2 => hf1.at2 (by omega))
          have hp1 := hp.fr (M2 := M1) (fun q q1 q2 => hf1.at2 (by omega))
          have hL1 := hL.fr (M2 := M1) (fun q q1 q2 => hf1.at2 (by omega))
          have hJ1 : juS M1 z := hJ.al (fun q q1 q2 => hf1.at2 (by omega))
          have hml1 : mlR M1 nn now (ksQ S) dl (rowL (ksL S) kk).length fr kn := ⟨hO1, hml.2.1.fr (fun x q1 q2 => hf1.at2 (by omega)), by obtain ⟨fd, q1, q2⟩ := hml.2.2; exact ⟨fd, (hf1.at2 (by omega)).trans q1, q2⟩⟩
          have h581 := h58.fr (M2 := M1) (fun q q1 q2 => hf1.at2 (by omega))
          have h611 := (hf1.at2 (q := 61) (by omega)).trans h61
          refine hz_aloadn (pc := 208) 4 (hz_dec kX11_keep 100 rfl) rfl ?_
          refine hz_iload (pc := 209) 0 (hz_dec kX11_keep 101 rfl) rfl ?_
          refine hz_callV (pc := 211) (a := nb) (As := [.int (nI kk)]) (st := []) (hz_dec kX11_keep 102 rfl) co_X11_484 im_X6_removeLost se_X6_removeLost rfl hN1 (by omega) (by omega) (c_rmLo hN1 hnb hnbz hL1 i5 ck) rfl (by omega) ⟨Nat.le_refl _, Nat.le_refl _⟩ (Nat.le_of_ble_eq_true rfl) rfl (fun r9 z9 M2 hp9 => ?_)
          obtain ⟨rfl, rfl, hf2, hL2⟩ := hp9
          have hH2 := (hf2.at1 (q := 8) (by omega)).trans hH1
          have hN2 := (hf2.at1 (q := nb) (by omega)).trans hN1
          have hD2 := (hf2.at1 (q := nb + 1) (by omega)).trans hD1
          have h612 := (hf2.at1 (q := 61) (by omega)).trans h611
          have hgl2 := (hf2.at1 (q := 53) (by omega)).trans hgl
          have hNs2 : nsR M2 nn := by obtain ⟨f9, q1, q2⟩ := hNs1; exact ⟨f9, (hf2.at1 (by omega)).trans q1, q2⟩
          have hT2 := hT1.fr (M2 := M2) (fun q q1 q2 => hf2.at1 (by omega))
          have hc2 := hc1.fr (M2 := M2) (fun q q1 q2 => hf2.at1 (by omega))
          have hp2 := hp1.fr (M2 := M2) (fun q q1 q2 => hf2.at1 (by omega))
          have hJ2 : juS M2 z := hJ1.al (fun q q1 q2 => hf2.at1 (by omega))
          have hml2 := hml1.fr (M2 := M2) (fun q q1 q2 q3 => hf2.at1 (by omega))
          have h582 := h581.fr (M2 := M2) (fun q q1 q2 => hf2.at1 (by omega))
          obtain ⟨bf2, fe2, hj2⟩ := id hJ2.1
          refine hz_aloadn (pc := 214) 3 (hz_dec kX11_keep 103 rfl) rfl ?_
          refine hz_get (pc := 215) (hz_dec kX11_keep 104 rfl) fo_X11_46 hH2 (by omega) (by omega) rfl ?_
          refine hz_aloadn (pc := 218) 4 (hz_dec kX11_keep 105 rfl) rfl ?_
          refine hz_aloadn (pc := 219) 3 (hz_dec kX11_keep 106 rfl) rfl ?_
          refine hz_get (pc := 220) (hz_dec kX11_keep 107 rfl) fo_X11_62 hH2 (by omega) (by omega) rfl ?_
          refine hz_get (pc := 223) (hz_dec kX11_keep 108 rfl) fo_X11_450 hml2.1 (by omega) (by omega) rfl ?_
          refine hz_aloadn (pc := 226) 3 (hz_dec kX11_keep 109 rfl) rfl ?_
          refine hz_get (pc := 227) (hz_dec kX11_keep 110 rfl) fo_X11_62 hH2 (by omega) (by omega) rfl ?_
          refine hz_get (pc := 230) (hz_dec kX11_keep 111 rfl) fo_X11_453 hml2.1 (by omega) (by omega) rfl ?_
          refine hz_iconst (pc := 233) (v := nI 1) (hz_dec kX11_keep 112 rfl) (by decide) ?_
          have qo := c_ofBlk (κ := κ) (od := true) hN2 hnb hnbz (by omega) hT2 i1.2.2.2.2.2.1 (fun k hk => (i1.cb hk).1) (fun k hk => (i1.cb hk).2) hJ2 hgl2 (by decide) (by omega) (by omega) (by decide) hglA (by omega)
          refine hz_callV (pc := 234) (a := 25) (As := [.ref nb, .ref 53, .int (nI ((rowL (ksL S) kk).length)), .int (nI 1)]) (st := []) (hz_dec kX11_keep 113 rfl) co_X11_288 im_X3_ofBlock se_X3_ofBlock rfl hj2 (by omega) (by omega) (qo) rfl (by omega) ⟨Nat.le_refl _, Nat.le_refl _⟩ (Nat.le_of_ble_eq_true rfl) rfl (fun r9 z9 M3 hp9 => ?_)
          obtain ⟨rfl, rfl, hf3, hT3, hJ3, hh3, hz3⟩ := hp9
          have hH3 := (hf3.at2 (q := 8) (by omega)).trans hH2
          have hN3 := (hf3.at2 (q := nb) (by omega)).trans hN2
          have hD3 := (hf3.at2 (q := nb + 1) (by omega)).trans hD2
          have h613 := (hf3.at2 (q := 61) (by omega)).trans h612
          have hgl3 := (hf3.at2 (q := 53) (by omega)).trans hgl2
          have hNs3 : nsR M3 nn := by obtain ⟨f9, q1, q2⟩ := hNs2; exact ⟨f9, (hf3.at2 (by omega)).trans q1, q2⟩
          have hc3 := hc2.fr (M2 := M3) (fun q q1 q2 => hf3.at2 (by omega))
          have hp3 := hp2.fr (M2 := M3) (fun q q1 q2 => hf3.at2 (by omega))
          have hL3 := hL2.fr (M2 := M3) (fun q q1 q2 => hf3.at2 (by omega))
          have hml3 := hml2.fr (M2 := M3) (fun q q1 q2 q3 => hf3.at2 (by omega))
          have h583 := h582.fr (M2 := M3) (fun q q1 q2 => hf3.at2 (by omega))
          have hfr3 : frS [(9, 39), (45, 54), (58, 62), (nb, nb + 34)] M0 M3 := (hfr.tr (hf1.mono (fun q hq => by simp only [outS, and_true] at hq ⊢; omega))).tr ((hf2.mono (fun q hq => by simp only [outS, and_true] at hq ⊢; omega)).tr (hf3.mono (fun q hq => by simp only [outS, and_true] at hq ⊢; omega)))
          have hE3 := ksE_X hI ck
          have hR3 : kcR M3 z nb nn v tl tr now fr kn rc rf (nI 1) dl (rowL (ksL S) kk).length (ksE S kk) := ⟨hH3, hNs3, hN3, ⟨_, hD3, hDX⟩, hT3, hc3, hp3, hL3, hJ3, hml3, ⟨_, hgl3⟩, ⟨_, h583⟩, _, h613⟩
          have hv9 : ksJ S (rowL (ksL S) kk) < 100 := by unfold ksJ jBk; have q9 := jPa_lt (rowL (ksL S) kk) (eH (enB (ksB S)) (pvF (ksB S) (rowL (ksL S) kk)) + 1) (coAt (ksB S) (enB (ksB S)) (pvF (ksB S) (rowL (ksL S) kk))); repeat (first | omega | split)
          refine hz_istore (pc := 237) (i := 9) (lo2 := [(9, .int (nI (ksJ S (rowL (ksL S) kk)))), (8, .int (nI kk)), (7, .int (nI i)), (5, .int (nI n)), (0, .ref 8), (1, .ref nb), (2, .int (nI d)), (3, .ref (nb + 21))]) (hz_dec kX11_keep 114 rfl) (by decide) rfl ?_
          refine hz_iload (pc := 239) 0 (hz_dec kX11_keep 115 rfl) rfl ?_
          refine hz_z_ne (pc := 241) (tgt := 257) (hz_dec kX11_keep 116 rfl) (by decide) (by omega) (fun h5 => ?_) (fun h5 => ?_)
          · skip
            refine hz_incN (pc := 257) (i := 7) (lo2 := [(7, .int (nI (i + 1))), (9, .int (nI (ksJ S (rowL (ksL S) kk)))), (8, .int (nI kk)), (5, .int (nI n)), (0, .ref 8), (1, .ref nb), (2, .int (nI d)), (3, .ref (nb + 21))]) 2 (hz_dec kX11_keep 126 rfl) rfl (by decide) rfl ?_
            refine hz_goto (pc := 260) (tgt := 147) (hz_dec kX11_keep 127 rfl) (by decide) ?_
            refine hz_pick (pc := 147) [0, 3, 4, 5, 6, 7] rfl ?_
            refine ih (i + 1) (ksE S kk) M3 _ (by omega) hfr3 hR3 hE3.1.2.2 (by have q := hE3.2; omega) hn hnl ?_
            rw [← hk]
            show _ = (if loF (ksL S) (haS l) < (ksL S).length then _ else _)
            rw [hkk, if_pos ck, if_neg (by omega)]
          · skip
            refine hz_aloadn (pc := 244) 4 (hz_dec kX11_keep 117 rfl) rfl ?_
            refine hz_aloadn (pc := 245) 5 (hz_dec kX11_keep 118 rfl) rfl ?_
            refine hz_iloadn (pc := 246) 6 (hz_dec kX11_keep 119 rfl) rfl ?_
            refine hz_iconst (pc := 247) (v := nI 1) (hz_dec kX11_keep 120 rfl) (by decide) ?_
            refine hz_addN (pc := 248) (hz_dec kX11_keep 121 rfl) ?_
            have hj0 : ksJ S (rowL (ksL S) kk) = 0 := by omega
            obtain ⟨⟨fe3, hjz⟩, fi3, h383, hfi3⟩ := hz3 hj0
            obtain ⟨fh3, h373, hh3A⟩ := hh3 (by have q : jBk (ksB S) (enB (ksB S)) (rowL (ksL S) kk) (nrB (ksN S) (rowL (ksL S) kk).length true) = 0 := hj0; omega)
            have hq := IH (ksE S kk) (rowL (ksL S) kk) M3 hR3 ⟨⟨_, hgl3, hglA⟩, ⟨_, h373, hh3A⟩, ⟨_, hjz⟩, _, h383, hfi3⟩ hE3.1.2.2 hj0 (by have q := hE3.2; omega)
            have hX4 : ksX (ksE S kk) (kp nn dl now v fr f (ksE S kk) (rowL (ksL S) kk)).1 := kp_X f (ksE S kk) (rowL (ksL S) kk) hE3.1.2.2 hj0
            refine hz_callV (pc := 249) (a := 8) (As := [.ref nb, .int (nI (d + 1))]) (st := []) (hz_dec kX11_keep 122 rfl) co_X11_460 im_X11_keep se_X11_keep rfl hH3 (by omega) (by omega) (hq) rfl (by omega) ⟨Nat.le_refl _, Nat.le_refl _⟩ (Nat.le_of_ble_eq_true rfl) rfl (fun r9 z9 M4 hp9 => ?_)
            obtain ⟨rfl, rfl, hf4, ll4, hR4⟩ := hp9
            have hfr4 : frS [(9, 39), (45, 54), (58, 62), (nb, nb + 34)] M0 M4 := hfr3.tr hf4
            have ekk : kpL (kp nn dl now v fr f) (haS l) (m + 1) S = if (kp nn dl now v fr f (ksE S kk) (rowL (ksL S) kk)).2 = true then kpL (kp nn dl now v fr f) (haS l) m (kp nn dl now v fr f (ksE S kk) (rowL (ksL S) kk)).1 else ((kp nn dl now v fr f (ksE S kk) (rowL (ksL S) kk)).1, false) := by
              show (if loF (ksL S) (haS l) < (ksL S).length then _ else _) = _
              rw [hkk, if_pos ck, if_pos hj0]
            refine hz_if_ne (pc := 252) (tgt := 257) (hz_dec kX11_keep 123 rfl) (by decide) (fun h6 => ?_) (fun h6 => ?_)
            · skip
              have e4 : (kp nn dl now v fr f (ksE S kk) (rowL (ksL S) kk)).2 = true := hz_b1 h6
              rw [e4] at hR4
              refine hz_incN (pc := 257) (i := 7) (lo2 := [(7, .int (nI (i + 1))), (9, .int (nI (ksJ S (rowL (ksL S) kk)))), (8, .int (nI kk)), (5, .int (nI n)), (0, .ref 8), (1, .ref nb), (2, .int (nI d)), (3, .ref (nb + 21))]) 2 (hz_dec kX11_keep 126 rfl) rfl (by decide) rfl ?_
              refine hz_goto (pc := 260) (tgt := 147) (hz_dec kX11_keep 127 rfl) (by decide) ?_
              refine hz_pick (pc := 147) [0, 3, 4, 5, 6, 7] rfl ?_
              obtain ⟨e9, he9⟩ := hX4.1
              have hbe : (ksB S).length + e9.length = (ksB _).length := (by rw [he9, List.length_append]; rfl : (ksB S).length + e9.length = (ksB (kp nn dl now v fr f (ksE S kk) (rowL (ksL S) kk)).1).length)
              refine ih (i + 1) _ M4 ll4 (by omega) hfr4 hR4 hX4.2.2 (by have q := hX4.2.1; have q2 := hE3.2; omega) (by omega) ?_ (by rw [← hk, ekk, if_pos e4])
              rw [he9]
              unfold bBy bkL
              rw [List.getD_eq_getElem?_getD, List.getElem?_append_left (show n < (ksB (ksE S kk)).length from hn), ← List.getD_eq_getElem?_getD]
              exact hnl
            · skip
              have e4 : (kp nn dl now v fr f (ksE S kk) (rowL (ksL S) kk)).2 = false := hz_b0 h6
              have eR : R0 = ((kp nn dl now v fr f (ksE S kk) (rowL (ksL S) kk)).1, false) := by rw [← hk, ekk, if_neg (by rw [e4]; decide)]
              rw [e4] at hR4
              refine hz_iconst (pc := 255) (v := nI 0) (hz_dec kX11_keep 124 rfl) (by decide) ?_
              exact hz_zret (pc := 256) (hz_dec kX11_keep 125 rfl) rfl rfl ⟨by rw [eR]; rfl, rfl, hfr4, ll4, by rw [eR]; exact hR4⟩
        · skip
          refine hz_eqi (pc := 166) (show _ = (-1 : Int32) from if_neg ck) ?_
          refine hz_istore (pc := 166) (i := 8) (lo2 := [(8, .int (-1)), (7, .int (nI i)), (5, .int (nI n)), (0, .ref 8), (1, .ref nb), (2, .int (nI d)), (3, .ref (nb + 21))]) (hz_dec kX11_keep 80 rfl) (by decide) rfl ?_
          refine hz_iload (pc := 168) 0 (hz_dec kX11_keep 81 rfl) rfl ?_
          refine hz_if_ge (pc := 170) (tgt := 175) (hz_dec kX11_keep 82 rfl) (by decide) (fun h4 => ?_) (fun h4 => ?_)
          · skip
            exact absurd h4 (by decide)
          · skip
            have eR : R0 = (S, true) := by rw [← hk]; unfold kpL; rw [if_neg ck]
            refine hz_iconst (pc := 173) (v := nI 1) (hz_dec kX11_keep 83 rfl) (by decide) ?_
            exact hz_zret (pc := 174) (hz_dec kX11_keep 84 rfl) rfl rfl ⟨by rw [eR]; rfl, rfl, hfr, ll, by rw [eR]; exact hR⟩
