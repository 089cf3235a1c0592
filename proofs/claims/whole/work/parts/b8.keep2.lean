/-! to keep a block: the class, whole -/
set_option maxHeartbeats 4000000 in
set_option maxRecDepth 100000 in
theorem c_keep_3 {κ : hz_C} {z nb nn v tl : Nat} {tr now fr kn rc rf : Int32} {dl : Nat → Nat} (hnb : 63 ≤ nb) (hnbz : nb + 34 ≤ z) (hnn : nn ≤ 6) (hvn : v < nn) {f d : Nat} (hfd : f + d = 8) (IH : kcC κ z nb nn v tl tr now fr kn rc rf dl f (d + 1)) {M0 : hz_M} {S : ks_S} {l : by_L} (hI : ksI S) (hj0 : ksJ S l = 0) (hLd : (ksL S).length + d ≤ 8) {M : hz_M} (hfr : frS [(9, 39), (45, 54), (58, 62), (nb, nb + 34)] M0 M) (hH : M 8 = hoO tl tr) (hNs : nsR M nn) (hN : M nb = ndO nb (nI v) (nI 1) (nI (ksN S + l.length + 6)) (pvI (fzN (ksF S) (l.length + 6))) rc rf) {gD : Nat → Int32} (hD : M (nb + 1) = .inl (1, 12288, .inl gD)) (hDX : ∀ j, j < 12288 → gD j = dkW (ksD S) (ksN S) (rcS l (ksN S)) (ksF S) j) (hT : trR M (nb + 21) (kpB S l) (kpT S l) (enB (kpB S l))) (hL : loR M nb (ksL S)) (hJ : juS M z) (hml : mlR M nn now (ksQ S) dl l.length fr kn) {g53 : Nat → Int32} (h53 : M 53 = .inl (1, 4000, .inl g53)) (hc : coR M (nb + 2) (coAt (kpB S l) (enB (kpB S l)) (kpT S l))) (hp : plR M nb (kpP S l)) (h58 : ∃ L, rwR M 58 5728 16 L) (h61 : ∃ g : Nat → Int32, M 61 = .inl (0, 113, .inl g)) : hz_W κ xX11_keep (f + 7) 0 0 (kcQ M0 z nb nn v tl tr now fr kn rc rf dl (kpL (kp nn dl now v fr f) (haS l) 8 (kp1 nn dl now v fr S l))) 0 0 127 [(3, .ref (nb + 21)), (5, .int (nI ((ksB S).length))), (0, .ref 8), (1, .ref nb), (2, .int (nI d))] [] z M := by
  have hX1 := kp1_X (nn := nn) (dl := dl) (now := now) (v := v) (fr := fr) hI hj0
  obtain ⟨k1, k2, k3, k4, k5⟩ := id hX1.2.2
  have htop : (kpB S l).length ≤ 113 := k1.top.2.1
  have hlb : (kpB S l).length = (ksB S).length + 1 := bl_len1 _ _
  have hbl : bBy (kpB S l) (ksB S).length = l := bBy_last
  have hz63 : 63 ≤ z := by omega
  obtain ⟨hT0, -, ⟨fh, hfh, hfhX⟩, -⟩ := id hT
  have hA := hfhX (ksB S).length (by omega)
  rw [hbl] at hA
  have h32 := haS_len l
  refine hz_aloadn (pc := 127) 2 (hz_dec kX11_keep 59 rfl) rfl ?_
  refine hz_aloadn (pc := 128) 3 (hz_dec kX11_keep 60 rfl) rfl ?_
  refine hz_aloadn (pc := 129) 0 (hz_dec kX11_keep 61 rfl) rfl ?_
  refine hz_get (pc := 130) (hz_dec kX11_keep 62 rfl) fo_X11_244 hT0 (by omega) (by omega) rfl ?_
  refine hz_bipush (pc := 133) (v := nI 32) (hz_dec kX11_keep 63 rfl) (by decide) ?_
  refine hz_iload (pc := 135) 1 (hz_dec kX11_keep 64 rfl) rfl ?_
  refine hz_mulN (pc := 137) (hz_dec kX11_keep 65 rfl) ?_
  refine hz_bipush (pc := 138) (v := nI 32) (hz_dec kX11_keep 66 rfl) (by decide) ?_
  refine hz_iconst (pc := 140) (v := nI 1) (hz_dec kX11_keep 67 rfl) (by decide) ?_
  have qt := c_tell (κ := κ) hz63 hH hnn hNs hN hnb (by omega) hvn hfh (by omega) (by omega) (by omega) (by decide) hA (by omega) (by omega) (kd := nI 1) hml
  rw [h32] at qt
  refine hz_callV (pc := 141) (a := 8) (As := [.ref nb, .ref (nb + 21 + 4), .int (nI (32 * ((ksB S).length))), .int (nI 32), .int (nI 1)]) (st := []) (hz_dec kX11_keep 68 rfl) co_X11_477 im_X11_tell se_X11_tell rfl hH (by omega) (by omega) (qt) rfl (by omega) ⟨Nat.le_refl _, Nat.le_refl _⟩ (Nat.le_of_ble_eq_true rfl) rfl (fun r9 z9 M1 hp9 => ?_)
  obtain ⟨rfl, rfl, hf1, hml1⟩ := hp9
  refine hz_iconst (pc := 144) (v := nI 0) (hz_dec kX11_keep 69 rfl) (by decide) ?_
  refine hz_istore (pc := 145) (i := 7) (lo2 := [(7, .int (nI 0)), (3, .ref (nb + 21)), (5, .int (nI ((ksB S).length))), (0, .ref 8), (1, .ref nb), (2, .int (nI d))]) (hz_dec kX11_keep 70 rfl) (by decide) rfl ?_
  refine hz_pick (pc := 147) [0, 2, 3, 4, 5, 1] rfl ?_
  have hfr1 : frS [(9, 39), (45, 54), (58, 62), (nb, nb + 34)] M0 M1 := hfr.tr (hf1.mono (fun q hq => by simp only [outS, and_true] at hq ⊢; omega))
  have hR1 : kcR M1 z nb nn v tl tr now fr kn rc rf (nI 1) dl l.length (kp1 nn dl now v fr S l) := ⟨(hf1.at1 (by omega)).trans hH, (by obtain ⟨f9, q1, q2⟩ := hNs; exact ⟨f9, (hf1.at1 (by omega)).trans q1, q2⟩), (hf1.at1 (by omega)).trans hN, ⟨gD, (hf1.at1 (by omega)).trans hD, hDX⟩, hT.fr (fun q q1 q2 => hf1.at1 (by omega)), hc.fr (fun q q1 q2 => hf1.at1 (by omega)), hp.fr (fun q q1 q2 => hf1.at1 (by omega)), hL.fr (fun q q1 q2 => hf1.at1 (by omega)), hJ.al (fun q q1 q2 => hf1.at1 (by omega)), hml1, ⟨_, (hf1.at1 (by omega)).trans h53⟩, h58.imp (fun L q => q.fr (fun x q1 q2 => hf1.at1 (by omega))), h61.imp (fun g q => (hf1.at1 (by omega)).trans q)⟩
  exact c_keep_l hnb hnbz hnn hvn hfd IH 8 0 (kp1 nn dl now v fr S l) M1 l.length (by omega) hfr1 hR1 hX1.2.2 hLd (show (ksB S).length < (kpB S l).length by omega) hbl rfl
set_option maxHeartbeats 4000000 in
set_option maxRecDepth 100000 in
theorem c_keep_2 {κ : hz_C} {z nb nn v tl : Nat} {tr now fr kn rc rf : Int32} {dl : Nat → Nat} (hnb : 63 ≤ nb) (hnbz : nb + 34 ≤ z) (hnn : nn ≤ 6) (hvn : v < nn) {f d : Nat} (hfd : f + d = 8) (IH : kcC κ z nb nn v tl tr now fr kn rc rf dl f (d + 1)) {M0 : hz_M} {S : ks_S} {l : by_L} (hI : ksI S) (hj0 : ksJ S l = 0) (hLd : (ksL S).length + d ≤ 8) {M : hz_M} (hfr : frS [(9, 39), (45, 54), (58, 62), (nb, nb + 34)] M0 M) (hH : M 8 = hoO tl tr) (hNs : nsR M nn) (hN : M nb = ndO nb (nI v) (nI 1) (nI (ksN S + l.length + 6)) (pvI (fzN (ksF S) (l.length + 6))) rc rf) {gD : Nat → Int32} (hD : M (nb + 1) = .inl (1, 12288, .inl gD)) (hDX : ∀ j, j < 12288 → gD j = dkW (ksD S) (ksN S) (rcS l (ksN S)) (ksF S) j) (hT : trR M (nb + 21) (ksB S) (ksT S) (enB (ksB S))) (hc : coR M (nb + 2) (coAt (ksB S) (enB (ksB S)) (ksT S))) (hp : plR M nb (ksP S)) (hL : loR M nb (ksL S)) (hJ : juS M z) (hml : mlR M nn now (ksQ S) dl l.length fr kn) (hkj : kcJ M (ksB S) l) {L58 : List by_L} (h58 : rwR M 58 5728 16 L58) {g61 : Nat → Int32} (h61 : M 61 = .inl (0, 113, .inl g61)) : hz_W κ xX11_keep (f + 7) 0 0 (kcQ M0 z nb nn v tl tr now fr kn rc rf dl (kpL (kp nn dl now v fr f) (haS l) 8 (kp1 nn dl now v fr S l))) 0 0 72 [(3, .ref (nb + 21)), (4, .int (nI (ksT S))), (5, .int (nI ((ksB S).length))), (6, .int (slI l (ksN S))), (0, .ref 8), (1, .ref nb), (2, .int (nI d))] [] z M := by
  obtain ⟨⟨g53, h53, hA53⟩, ⟨fhJ, h37, hhA⟩, ⟨fe, hj⟩, fi, h38, hfi⟩ := id hkj
  have hX1 := kp1_X (nn := nn) (dl := dl) (now := now) (v := v) (fr := fr) hI hj0
  obtain ⟨k1, k2, k3, k4, k5⟩ := id hX1.2.2
  obtain ⟨i1, i2, i3, i4, i5⟩ := id hI
  obtain ⟨j1, j2, j3, j4, j5, j6⟩ := jBk_0 hj0
  have hRt := wkS_R j3
  have hto := (i1.to j5 hRt).2
  have hrm := nrB_f j6
  have hln := j1.len
  have hlb : (kpB S l).length = (ksB S).length + 1 := bl_len1 _ _
  have htop : (kpB S l).length ≤ 113 := k1.top.2.1
  have htt := i1.top
  have hoff : offL ((ksB S).map Prod.fst) (ksB S).length + 6 * (ksB S).length = ksN S + 109 := i1.2.2.1.symm
  have hbp := i1.1
  have hz63 : 63 ≤ z := by omega
  have hw0 : ck_w M := by obtain ⟨-, -, -, -, -, -, -, -, -, q⟩ := hJ; exact q
  have hTO := hT.1
  refine hz_aloadn (pc := 72) 0 (hz_dec kX11_keep 34 rfl) rfl ?_
  refine hz_aloadn (pc := 73) 4 (hz_dec kX11_keep 35 rfl) rfl ?_
  refine hz_get (pc := 74) (hz_dec kX11_keep 36 rfl) fo_X11_62 hH (by omega) (by omega) rfl ?_
  refine hz_get (pc := 77) (hz_dec kX11_keep 37 rfl) fo_X11_450 hml.1 (by omega) (by omega) rfl ?_
  refine hz_aloadn (pc := 80) 4 (hz_dec kX11_keep 38 rfl) rfl ?_
  refine hz_get (pc := 81) (hz_dec kX11_keep 39 rfl) fo_X11_62 hH (by omega) (by omega) rfl ?_
  refine hz_get (pc := 84) (hz_dec kX11_keep 40 rfl) fo_X11_453 hml.1 (by omega) (by omega) rfl ?_
  refine hz_aloadn (pc := 87) 4 (hz_dec kX11_keep 41 rfl) rfl ?_
  refine hz_get (pc := 88) (hz_dec kX11_keep 42 rfl) fo_X11_46 hH (by omega) (by omega) rfl ?_
  refine hz_get (pc := 91) (hz_dec kX11_keep 43 rfl) fo_X11_108 hj (by omega) (by omega) rfl ?_
  refine hz_aloadn (pc := 94) 4 (hz_dec kX11_keep 44 rfl) rfl ?_
  refine hz_get (pc := 95) (hz_dec kX11_keep 45 rfl) fo_X11_46 hH (by omega) (by omega) rfl ?_
  refine hz_get (pc := 98) (hz_dec kX11_keep 46 rfl) fo_X11_111 hj (by omega) (by omega) rfl ?_
  refine hz_aloadn (pc := 101) 4 (hz_dec kX11_keep 47 rfl) rfl ?_
  refine hz_get (pc := 102) (hz_dec kX11_keep 48 rfl) fo_X11_46 hH (by omega) (by omega) rfl ?_
  refine hz_get (pc := 105) (hz_dec kX11_keep 49 rfl) fo_X11_471 hj (by omega) (by omega) rfl ?_
  refine hz_callV (pc := 108) (a := nb + 21) (As := [.ref 53, .int (nI (l.length)), .ref 37, .ref 38, .int (nI (pvF (ksB S) l))]) (st := []) (hz_dec kX11_keep 50 rfl) co_X11_115 im_X10_add se_X10_add rfl hTO (by omega) (by omega) (c_trAdd hT (by omega) (by omega) (enB_len _) hw0 h53 (by decide) (by omega) (by omega) (by decide) hA53 (by omega) j1 hRt h37 hhA h38 hfi i1.2.2.2.2.2.1 j5 (by omega) (by omega) hto) rfl (by omega) ⟨Nat.le_refl _, Nat.le_refl _⟩ (Nat.le_of_ble_eq_true rfl) rfl (fun r9 z9 M1 hp9 => ?_)
  obtain ⟨rfl, rfl, hf1, hw1, hT1⟩ := hp9
  have hfr1 : frS [(9, 39), (45, 54), (58, 62), (nb, nb + 34)] M0 M1 := hfr.tr (hf1.mono (fun q hq => by simp only [outS, and_true] at hq ⊢; omega))
  have hT1 : trR M1 (nb + 21) (kpB S l) (kpT S l) (enB (kpB S l)) := by unfold kpB; rw [enB_app]; exact hT1
  have hH1 := (hf1.at2 (q := 8) (by omega)).trans hH
  have hN1 := (hf1.at2 (q := nb) (by omega)).trans hN
  have hD1 := (hf1.at2 (q := nb + 1) (by omega)).trans hD
  have h531 := (hf1.at2 (q := 53) (by omega)).trans h53
  have h611 := (hf1.at2 (q := 61) (by omega)).trans h61
  have hNs1 : nsR M1 nn := by obtain ⟨f9, q1, q2⟩ := hNs; exact ⟨f9, (hf1.at2 (by omega)).trans q1, q2⟩
  have hc1 := hc.fr (M2 := M1) (fun q q1 q2 => hf1.at2 (by omega))
  have hp1 := hp.fr (M2 := M1) (fun q q1 q2 => hf1.at2 (by omega))
  have hL1 := hL.fr (M2 := M1) (fun q q1 q2 => hf1.at2 (by omega))
  have h581 := h58.fr (M2 := M1) (fun q q1 q2 => hf1.at2 (by omega))
  have hJ1 : juS M1 z := hJ.w (fun q q1 q2 q3 => hf1.at2 (by omega)) hw1
  have hml1 := hml.fr (M2 := M1) (fun q q1 q2 q3 => hf1.at2 (by omega))
  have hT1O := hT1.1
  refine hz_aloadn (pc := 111) 0 (hz_dec kX11_keep 51 rfl) rfl ?_
  refine hz_get (pc := 112) (hz_dec kX11_keep 52 rfl) fo_X11_235 hT1O (by omega) (by omega) rfl ?_
  refine hz_iload (pc := 115) 1 (hz_dec kX11_keep 53 rfl) rfl ?_
  have htip1 : kpT S l < (kpB S l).length := k2
  refine hz_n_eq (pc := 117) (tgt := 127) (hz_dec kX11_keep 54 rfl) (by decide) (by omega) (by omega) (fun h2 => ?_) (fun h2 => ?_)
  · skip
    refine hz_pick (pc := 127) [0, 2, 4, 5, 6] rfl ?_
    refine c_keep_3 hnb hnbz hnn hvn hfd IH hI hj0 hLd hfr1 hH1 hNs1 hN1 hD1 hDX hT1 hL1 hJ1 hml1 h531 ?_ ?_ ⟨_, h581⟩ ⟨_, h611⟩
    · rw [h2]
      unfold kpB
      rw [enB_app, coAt_app i1.2.2.2.2.1 (enB_len _) i2]
      exact hc1
    · unfold kpP
      rw [if_pos h2]
      exact hp1
  · skip
    refine hz_aloadn (pc := 120) 4 (hz_dec kX11_keep 55 rfl) rfl ?_
    refine hz_aloadn (pc := 121) 5 (hz_dec kX11_keep 56 rfl) rfl ?_
    refine hz_iload (pc := 122) 1 (hz_dec kX11_keep 57 rfl) rfl ?_
    have cb1 := k1.cb (k := kpT S l) k2
    refine hz_callV (pc := 124) (a := 8) (As := [.ref nb, .int (nI (ksT S))]) (st := []) (hz_dec kX11_keep 58 rfl) co_X11_473 im_X11_renewPool se_X11_renewPool rfl hH1 (by omega) (by omega) (c_renew hz63 hH1 hN1 hnb hnbz hT1 k1.2.2.2.2.2.1 cb1.2.2 (old := ksT S) (by omega) i4 cb1.1 hc1 hp1 hJ1 h581 ⟨_, h611⟩) rfl (by omega) ⟨Nat.le_refl _, Nat.le_refl _⟩ (Nat.le_of_ble_eq_true rfl) rfl (fun r9 z9 M2 hp9 => ?_)
    obtain ⟨rfl, rfl, hf2, hc2, hp2, hJ2, h582, h612⟩ := hp9
    refine hz_pick (pc := 127) [0, 2, 4, 5, 6] rfl ?_
    refine c_keep_3 hnb hnbz hnn hvn hfd IH hI hj0 hLd (hfr1.tr (hf2.mono (fun q hq => by simp only [outS, and_true] at hq ⊢; omega))) ((hf2.at4 (by omega)).trans hH1) (by obtain ⟨f9, q1, q2⟩ := hNs1; exact ⟨f9, (hf2.at4 (by omega)).trans q1, q2⟩) ((hf2.at4 (by omega)).trans hN1) ((hf2.at4 (by omega)).trans hD1) hDX (hT1.fr (fun q q1 q2 => hf2.at4 (by omega))) (hL1.fr (fun q q1 q2 => hf2.at4 (by omega))) hJ2 (hml1.fr (fun q q1 q2 q3 => hf2.at4 (by omega))) ((hf2.at4 (by omega)).trans h531) hc2 ?_ h582 h612
    unfold kpP
    rw [if_neg h2]
    exact hp2
set_option maxHeartbeats 4000000 in
set_option maxRecDepth 100000 in
theorem c_keep_1 {κ : hz_C} {z nb nn v tl : Nat} {tr now fr kn rc rf : Int32} {dl : Nat → Nat} (hnb : 63 ≤ nb) (hnbz : nb + 34 ≤ z) (hnn : nn ≤ 6) (hvn : v < nn) {f d : Nat} (hfd : f + d = 8) (IH : kcC κ z nb nn v tl tr now fr kn rc rf dl f (d + 1)) : kcC κ z nb nn v tl tr now fr kn rc rf dl (f + 1) d := by
  intro S l M hR hkj hI hj0 hLd
  refine hz_ent (lo := [(0, .ref 8), (1, .ref nb), (2, .int (nI d))]) (by decide) (Nat.le_of_ble_eq_true rfl) rfl ?_
  show hz_W κ xX11_keep (f + 7) 0 0 (kcQ M z nb nn v tl tr now fr kn rc rf dl (kp nn dl now v fr (f + 1) S l)) 0 0 0 [(0, .ref 8), (1, .ref nb), (2, .int (nI d))] [] z M
  obtain ⟨hH, hNs, hN, ⟨gD, hD, hDX⟩, hT, hc, hp, hL, hJ, hml, ⟨g53, h53⟩, ⟨L58, h58⟩, g61, h61⟩ := id hR
  obtain ⟨⟨g53x, h53x, hA53⟩, -⟩ := id hkj
  obtain ⟨i1, i2, i3, i4, i5⟩ := id hI
  obtain ⟨j1, j2, j3, j4, j5, j6⟩ := jBk_0 hj0
  have hrm := nrB_f j6
  have hln := j1.len
  have hz63 : 63 ≤ z := by omega
  have htt := i1.top
  obtain ⟨bf, fe, hj⟩ := id hJ.1
  have hTO := hT.1
  have hrwO := hT.2.1.1
  rw [List.length_map] at hrwO
  refine hz_aloadn (pc := 0) 1 (hz_dec kX11_keep 0 rfl) rfl ?_
  refine hz_get (pc := 1) (hz_dec kX11_keep 1 rfl) fo_X11_104 hN (by omega) (by omega) rfl ?_
  refine hz_astoren (pc := 4) (i := 3) (lo2 := [(3, .ref (nb + 21)), (0, .ref 8), (1, .ref nb), (2, .int (nI d))]) (hz_dec kX11_keep 2 rfl) rfl (by decide) rfl ?_
  refine hz_aloadn (pc := 5) 0 (hz_dec kX11_keep 3 rfl) rfl ?_
  refine hz_get (pc := 6) (hz_dec kX11_keep 4 rfl) fo_X11_235 hTO (by omega) (by omega) rfl ?_
  refine hz_istore (pc := 9) (i := 4) (lo2 := [(4, .int (nI (ksT S))), (3, .ref (nb + 21)), (0, .ref 8), (1, .ref nb), (2, .int (nI d))]) (hz_dec kX11_keep 5 rfl) (by decide) rfl ?_
  refine hz_aloadn (pc := 11) 1 (hz_dec kX11_keep 6 rfl) rfl ?_
  refine hz_get (pc := 12) (hz_dec kX11_keep 7 rfl) fo_X11_217 hTO (by omega) (by omega) rfl ?_
  refine hz_get (pc := 15) (hz_dec kX11_keep 8 rfl) fo_X11_220 hrwO (by omega) (by omega) rfl ?_
  refine hz_istore (pc := 18) (i := 5) (lo2 := [(5, .int (nI ((ksB S).length))), (4, .int (nI (ksT S))), (3, .ref (nb + 21)), (0, .ref 8), (1, .ref nb), (2, .int (nI d))]) (hz_dec kX11_keep 9 rfl) (by decide) rfl ?_
  refine hz_aloadn (pc := 20) 3 (hz_dec kX11_keep 10 rfl) rfl ?_
  refine hz_get (pc := 21) (hz_dec kX11_keep 11 rfl) fo_X11_46 hH (by omega) (by omega) rfl ?_
  refine hz_aloadn (pc := 24) 3 (hz_dec kX11_keep 12 rfl) rfl ?_
  refine hz_get (pc := 25) (hz_dec kX11_keep 13 rfl) fo_X11_62 hH (by omega) (by omega) rfl ?_
  refine hz_get (pc := 28) (hz_dec kX11_keep 14 rfl) fo_X11_450 hml.1 (by omega) (by omega) rfl ?_
  refine hz_aloadn (pc := 31) 3 (hz_dec kX11_keep 15 rfl) rfl ?_
  refine hz_get (pc := 32) (hz_dec kX11_keep 16 rfl) fo_X11_62 hH (by omega) (by omega) rfl ?_
  refine hz_get (pc := 35) (hz_dec kX11_keep 17 rfl) fo_X11_453 hml.1 (by omega) (by omega) rfl ?_
  refine hz_aloadn (pc := 38) 4 (hz_dec kX11_keep 18 rfl) rfl ?_
  refine hz_get (pc := 39) (hz_dec kX11_keep 19 rfl) fo_X11_367 hN (by omega) (by omega) rfl ?_
  refine hz_callV (pc := 42) (a := 25) (As := [.ref 53, .int (nI (l.length)), .int (nI (ksN S))]) (st := []) (hz_dec kX11_keep 20 rfl) co_X11_464 im_X3_sealOf se_X3_sealOf rfl hj (by omega) (by omega) (c_seal hJ h53x (by decide) (by omega) (by decide) hA53 (by omega) (by omega) (p := ksN S) (by omega)) rfl (by omega) ⟨Nat.le_refl _, Nat.le_refl _⟩ (Nat.le_of_ble_eq_true rfl) rfl (fun r9 z9 M1 hp9 => ?_)
  obtain ⟨rfl, rfl, hf1, hJ1⟩ := hp9
  have hH1 := (hf1.at2 (q := 8) (by omega)).trans hH
  have hN1 := (hf1.at2 (q := nb) (by omega)).trans hN
  have hD1 := (hf1.at2 (q := nb + 1) (by omega)).trans hD
  have h53x1 := (hf1.at2 (q := 53) (by omega)).trans h53x
  have h611 := (hf1.at2 (q := 61) (by omega)).trans h61
  have hml1 := hml.fr (M2 := M1) (fun q q1 q2 q3 => hf1.at2 (by omega))
  refine hz_istore (pc := 45) (i := 6) (lo2 := [(6, .int (slI l (ksN S))), (5, .int (nI ((ksB S).length))), (4, .int (nI (ksT S))), (3, .ref (nb + 21)), (0, .ref 8), (1, .ref nb), (2, .int (nI d))]) (hz_dec kX11_keep 21 rfl) (by decide) rfl ?_
  refine hz_aloadn (pc := 47) 5 (hz_dec kX11_keep 22 rfl) rfl ?_
  refine hz_aloadn (pc := 48) 4 (hz_dec kX11_keep 23 rfl) rfl ?_
  refine hz_get (pc := 49) (hz_dec kX11_keep 24 rfl) fo_X11_62 hH1 (by omega) (by omega) rfl ?_
  refine hz_get (pc := 52) (hz_dec kX11_keep 25 rfl) fo_X11_450 hml1.1 (by omega) (by omega) rfl ?_
  refine hz_aloadn (pc := 55) 4 (hz_dec kX11_keep 26 rfl) rfl ?_
  refine hz_get (pc := 56) (hz_dec kX11_keep 27 rfl) fo_X11_62 hH1 (by omega) (by omega) rfl ?_
  refine hz_get (pc := 59) (hz_dec kX11_keep 28 rfl) fo_X11_453 hml1.1 (by omega) (by omega) rfl ?_
  refine hz_iload (pc := 62) 0 (hz_dec kX11_keep 29 rfl) rfl ?_
  refine hz_callV (pc := 64) (a := nb) (As := [.ref 53, .int (nI (l.length)), .int (slI l (ksN S))]) (st := []) (hz_dec kX11_keep 30 rfl) co_X11_468 im_X6_write se_X6_write rfl hN1 (by omega) (by omega) (c_wr hnb hnbz h53x1 (by decide) (by omega) (by omega) (by decide) hA53 (by omega) (by omega) (by omega) i3 hN1 hD1 hDX) rfl (by omega) ⟨Nat.le_refl _, Nat.le_refl _⟩ (Nat.le_of_ble_eq_true rfl) rfl (fun r9 z9 M2 hp9 => ?_)
  obtain ⟨rfl, rfl, hf2, hN2, gD2, hD2, hDX2⟩ := hp9
  have e12 : ∀ q, (q < 9 ∨ 20 ≤ q) ∧ (q < 36 ∨ 37 ≤ q) ∧ (q < nb ∨ nb + 2 ≤ q) → M2 q = M q := fun q hq => (hf2.at1 (by omega)).trans (hf1.at2 (by omega))
  have hfr2 : frS [(9, 39), (45, 54), (58, 62), (nb, nb + 34)] M M2 := (hf1.mono (fun q hq => by simp only [outS, and_true] at hq ⊢; omega)).tr (hf2.mono (fun q hq => by simp only [outS, and_true] at hq ⊢; omega))
  have hJ2 : juS M2 z := hJ1.al (fun q q1 q2 => hf2.at1 (by omega))
  have hkp : kp nn dl now v fr (f + 1) S l = if fzO (ksF S) (l.length + 6) = true then kpL (kp nn dl now v fr f) (haS l) 8 (kp1 nn dl now v fr S l) else (kp0 S l, false) := rfl
  refine hz_if_ne (pc := 67) (tgt := 72) (hz_dec kX11_keep 31 rfl) (by decide) (fun h1 => ?_) (fun h1 => ?_)
  · skip
    have eO : fzO (ksF S) (l.length + 6) = true := hz_b1 h1
    rw [hkp, if_pos eO]
    rw [eO, if_pos rfl] at hN2
    refine hz_pick (pc := 72) [3, 2, 1, 0, 4, 5, 6] rfl ?_
    refine c_keep_2 hnb hnbz hnn hvn hfd IH hI hj0 hLd hfr2 ((e12 _ (by omega)).trans hH) (by obtain ⟨f9, q1, q2⟩ := hNs; exact ⟨f9, (e12 _ (by omega)).trans q1, q2⟩) (by rw [Nat.add_assoc]; exact hN2) hD2 hDX2 (hT.fr (fun q q1 q2 => e12 _ (by omega))) (hc.fr (fun q q1 q2 => e12 _ (by omega))) (hp.fr (fun q q1 q2 => e12 _ (by omega))) (hL.fr (fun q q1 q2 => e12 _ (by omega))) hJ2 (hml.fr (fun q q1 q2 q3 => e12 _ (by omega))) ?_ (h58.fr (fun q q1 q2 => e12 _ (by omega))) ((e12 _ (by omega)).trans h61)
    obtain ⟨-, ⟨fh, q1, q2⟩, ⟨fe9, q3⟩, fi, q4, q5⟩ := id hkj
    exact ⟨⟨_, (e12 _ (by omega)).trans h53x, hA53⟩, ⟨fh, (e12 _ (by omega)).trans q1, q2⟩, ⟨fe9, (e12 _ (by omega)).trans q3⟩, fi, (e12 _ (by omega)).trans q4, q5⟩
  · skip
    have eO : fzO (ksF S) (l.length + 6) = false := hz_b0 h1
    rw [hkp, if_neg (by rw [eO]; decide)]
    rw [eO] at hN2
    refine hz_iconst (pc := 70) (v := nI 0) (hz_dec kX11_keep 32 rfl) (by decide) ?_
    exact hz_zret (pc := 71) (hz_dec kX11_keep 33 rfl) rfl rfl ⟨rfl, rfl, hfr2, l.length, (e12 _ (by omega)).trans hH, (by obtain ⟨f9, q1, q2⟩ := hNs; exact ⟨f9, (e12 _ (by omega)).trans q1, q2⟩), hN2, ⟨gD2, hD2, hDX2⟩, hT.fr (fun q q1 q2 => e12 _ (by omega)), hc.fr (fun q q1 q2 => e12 _ (by omega)), hp.fr (fun q q1 q2 => e12 _ (by omega)), hL.fr (fun q q1 q2 => e12 _ (by omega)), hJ2, hml.fr (fun q q1 q2 q3 => e12 _ (by omega)), ⟨_, (e12 _ (by omega)).trans h53⟩, ⟨_, h58.fr (fun q q1 q2 => e12 _ (by omega))⟩, _, (e12 _ (by omega)).trans h61⟩
theorem c_keep {κ : hz_C} {z nb nn v tl : Nat} {tr now fr kn rc rf : Int32} {dl : Nat → Nat} (hnb : 63 ≤ nb) (hnbz : nb + 34 ≤ z) (hnn : nn ≤ 6) (hvn : v < nn) : ∀ f d, f + d = 9 → kcC κ z nb nn v tl tr now fr kn rc rf dl f d := by
  intro f
  induction f with
  | zero => intro d hd S l M hR hkj hI hj0 hLd; exact absurd hLd (by omega)
  | succ f ih => intro d hd; exact c_keep_1 hnb hnbz hnn hvn (by omega) (ih (d + 1) (by omega))
