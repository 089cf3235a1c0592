/-! a block, a transaction comes: the class -/
/-- one more orphan -/
def ksO (S : ks_S) (l : by_L) (q : mq_S) : ks_S := (ksB S, ksT S, ksN S, ksF S, ksD S, ksP S, loA (ksL S) l, q)
/-- a block comes: what becomes of the node, whether it is up, the answer -/
def tkB (nn : Nat) (dl : Nat → Nat) (now : Int32) (v : Nat) (fr : Int32) (d : Nat) (S : ks_S) (l : by_L) : ks_S × Bool × Int32 :=
  if ksJ S l = 0 then ((kp nn dl now v fr 9 S l).1, (kp nn dl now v fr 9 S l).2, if (kp nn dl now v fr 9 S l).2 = true then nI 0 else -2)
  else if ksJ S l = 6 then (if isLo (ksL S) (haS l) = true then S else ksO S l (sd1 now (nI v) fr (nI 2) d (akT (ksB S) (enB (ksB S)) (ksT S)) (ksQ S)), true, nI 6)
  else (S, true, nI (ksJ S l))
/-- a transaction's verdict -/
def ksV (S : ks_S) (t : by_L) : Nat := jPo (ksP S) (coAt (ksB S) (enB (ksB S)) (ksT S)) t (eH (enB (ksB S)) (ksT S) + 1)
def tkT (nn : Nat) (dl : Nat → Nat) (now : Int32) (v : Nat) (fr : Int32) (S : ks_S) (t : by_L) : ks_S := (ksB S, ksT S, ksN S, ksF S, ksD S, poN (ksP S) (coAt (ksB S) (enB (ksB S)) (ksT S)) t (eH (enB (ksB S)) (ksT S) + 1) true, ksL S, if ksV S t = 0 then tlQ dl now v fr (nI 6) t nn (ksQ S) else ksQ S)
theorem tkT_I {nn : Nat} {dl : Nat → Nat} {now : Int32} {v : Nat} {fr : Int32} {S : ks_S} {t : by_L} (h : ksI S) : ksI (tkT nn dl now v fr S t) := by
  obtain ⟨a1, a2, a3, a4, a5⟩ := h
  exact ⟨a1, a2, a3, poW_N a4, a5⟩
theorem jBk_6 {bl : List bk_B} {en : List en_E} {l : by_L} {nr : Bool} (e : ¬ jBk bl en l nr = 1) : blW l := fun c => e (by unfold jBk; rw [if_pos c])
theorem tkB_I {nn : Nat} {dl : Nat → Nat} {now : Int32} {v : Nat} {fr : Int32} {d : Nat} {S : ks_S} {l : by_L} (h : ksI S) : ksI (tkB nn dl now v fr d S l).1 := by
  unfold tkB
  split
  · rename_i c; exact (kp_X 9 S l h c).2.2
  · split
    · rename_i c
      show ksI (if isLo (ksL S) (haS l) = true then S else _)
      split
      · exact h
      · obtain ⟨a1, a2, a3, a4, a5⟩ := h
        exact ⟨a1, a2, a3, a4, loA_w a5 (jBk_6 (bl := ksB S) (en := enB (ksB S)) (nr := nrB (ksN S) l.length true) (by unfold ksJ at c; omega))⟩
    · exact h
theorem ksJ_lt (S : ks_S) (l : by_L) : ksJ S l < 100 := by unfold ksJ jBk; have q9 := jPa_lt l (eH (enB (ksB S)) (pvF (ksB S) l) + 1) (coAt (ksB S) (enB (ksB S)) (pvF (ksB S) l)); repeat (first | omega | split)
theorem ksV_lt (S : ks_S) (t : by_L) : ksV S t < 100 := by unfold ksV jPo; have q9 := jSp_lt (coAt (ksB S) (enB (ksB S)) (ksT S)) t (eH (enB (ksB S)) (ksT S) + 1); repeat (first | omega | split)
set_option maxHeartbeats 4000000 in
set_option maxRecDepth 100000 in
theorem c_kOrp {κ : hz_C} {z nb nn v tl : Nat} {tr now fr kn rc rf : Int32} {dl : Nat → Nat} (hnb : 63 ≤ nb) (hnbz : nb + 34 ≤ z) (hnn : nn ≤ 6) (hvn : v < nn) {d : Nat} (hto : (∃ b, b < nn ∧ fr = nI b ∧ d = dl (6 * v + b)) ∨ (fr < 0 ∧ d = 0)) {M : hz_M} {S : ks_S} {l : by_L} (hR : kcR M z nb nn v tl tr now fr kn rc rf (nI 1) dl l.length S) (hI : ksI S) (hl4 : l.length ≤ 4000) {gl : Nat → Int32} (hgl : M 53 = .inl (1, 4000, .inl gl)) (hgA : isA gl 0 l) {g57 : Nat → Int32} (h57 : M 57 = .inl (1, 1280, .inl g57)) (hW : blW l) {fh : Nat → Int32} (h37 : M 37 = .inl (1, 32, .inl fh)) (h37A : isA fh 0 (haS l)) : hz_Mt κ xX11_keepOrphan 4 0 0 [.ref 8, .ref nb] z M (fun r z2 M2 => none = r ∧ z = z2 ∧ frS [(9, 39), (45, 54), (57, 62), (nb, nb + 34)] M M2 ∧ (∃ ll, kcR M2 z nb nn v tl tr now fr kn rc rf (nI 1) dl ll (if isLo (ksL S) (haS l) = true then S else ksO S l (sd1 now (nI v) fr (nI 2) d (akT (ksB S) (enB (ksB S)) (ksT S)) (ksQ S)))) ∧ ∃ g : Nat → Int32, M2 57 = .inl (1, 1280, .inl g)) := by
  refine hz_ent (lo := [(0, .ref 8), (1, .ref nb)]) (by decide) (Nat.le_of_ble_eq_true rfl) rfl ?_
  obtain ⟨hH, hNs, hN, ⟨gD, hD, hDX⟩, hT, hc, hp, hL, hJ, hml, ⟨g53, h53⟩, ⟨L58, h58⟩, g61, h61⟩ := id hR
  obtain ⟨i1, i2, i3, i4, i5⟩ := id hI
  obtain ⟨bf, fe, hj⟩ := id hJ.1
  have hz63 : 63 ≤ z := by omega
  have hLO := hL.1.1
  have hl8 := i5.1
  have hln9 := hW.len
  refine hz_aloadn (pc := 0) 1 (hz_dec kX11_keepOrphan 0 rfl) rfl ?_
  refine hz_aloadn (pc := 1) 0 (hz_dec kX11_keepOrphan 1 rfl) rfl ?_
  refine hz_get (pc := 2) (hz_dec kX11_keepOrphan 2 rfl) fo_X11_46 hH (by omega) (by omega) rfl ?_
  refine hz_get (pc := 5) (hz_dec kX11_keepOrphan 3 rfl) fo_X11_108 hj (by omega) (by omega) rfl ?_
  refine hz_xV (pc := 8) (a := nb) (As := [.ref 37]) (st := []) (hz_dec kX11_keepOrphan 4 rfl) co_X11_487 im_X6_isLost se_X6_isLost rfl hN (by omega) (by omega) (c_isLo hN hnb hnbz hL i5 h37 (by decide) (by omega) (by decide) h37A (haS_len l) (by decide)) rfl (by decide) ⟨Nat.le_refl _, Nat.le_refl _⟩ (Nat.le_of_ble_eq_true rfl) rfl ?_
  refine hz_if_eq (pc := 11) (tgt := 15) (hz_dec kX11_keepOrphan 5 rfl) (by decide) (fun h1 => ?_) (fun h1 => ?_)
  · skip
    have eN : isLo (ksL S) (haS l) = false := hz_b0 h1
    refine hz_aloadn (pc := 15) 1 (hz_dec kX11_keepOrphan 7 rfl) rfl ?_
    refine hz_get (pc := 16) (hz_dec kX11_keepOrphan 8 rfl) fo_X11_380 hN (by omega) (by omega) rfl ?_
    refine hz_get (pc := 19) (hz_dec kX11_keepOrphan 9 rfl) fo_X11_220 hLO (by omega) (by omega) rfl ?_
    refine hz_bipush (pc := 22) (v := nI 8) (hz_dec kX11_keepOrphan 10 rfl) (by decide) ?_
    refine hz_n_ne (pc := 24) (tgt := 32) (hz_dec kX11_keepOrphan 11 rfl) (by decide) (by omega) (by omega) (fun h2 => ?_) (fun h2 => ?_)
    · skip
      have hN1 := hN
      have hgl1 := hgl
      have h371 := h37
      have hL1 : loR M nb (loD (ksL S)) := by unfold loD; rw [if_neg h2]; exact hL
      refine hz_aloadn (pc := 32) 1 (hz_dec kX11_keepOrphan 15 rfl) rfl ?_
      refine hz_aloadn (pc := 33) 0 (hz_dec kX11_keepOrphan 16 rfl) rfl ?_
      refine hz_get (pc := 34) (hz_dec kX11_keepOrphan 17 rfl) fo_X11_62 hH (by omega) (by omega) rfl ?_
      refine hz_get (pc := 37) (hz_dec kX11_keepOrphan 18 rfl) fo_X11_450 hml.1 (by omega) (by omega) rfl ?_
      refine hz_aloadn (pc := 40) 0 (hz_dec kX11_keepOrphan 19 rfl) rfl ?_
      refine hz_get (pc := 41) (hz_dec kX11_keepOrphan 20 rfl) fo_X11_62 hH (by omega) (by omega) rfl ?_
      refine hz_get (pc := 44) (hz_dec kX11_keepOrphan 21 rfl) fo_X11_453 hml.1 (by omega) (by omega) rfl ?_
      refine hz_aloadn (pc := 47) 0 (hz_dec kX11_keepOrphan 22 rfl) rfl ?_
      refine hz_get (pc := 48) (hz_dec kX11_keepOrphan 23 rfl) fo_X11_46 hH (by omega) (by omega) rfl ?_
      refine hz_get (pc := 51) (hz_dec kX11_keepOrphan 24 rfl) fo_X11_108 hj (by omega) (by omega) rfl ?_
      refine hz_callV (pc := 54) (a := nb) (As := [.ref 53, .int (nI (l.length)), .ref 37]) (st := []) (hz_dec kX11_keepOrphan 25 rfl) co_X11_491 im_X6_addLost se_X6_addLost rfl hN (by omega) (by omega) (c_adLo hN1 hnb hnbz hL1 (loD_w i5).1 hgl1 (by decide) (by omega) (by decide) hgA (by omega) hW h371 (by decide) (by omega) (by omega) (by decide) h37A (by decide) (loD_w i5).2) rfl (by decide) ⟨Nat.le_refl _, Nat.le_refl _⟩ (Nat.le_of_ble_eq_true rfl) rfl (fun r9 z9 M2 hp9 => ?_)
      obtain ⟨rfl, rfl, hf2, hL2⟩ := hp9
      have e12 : ∀ q, (q < nb + 15 ∨ nb + 21 ≤ q) → M2 q = M q := fun q hq => (hf2.at1 (by omega)).trans (rfl)
      have hN2 := (e12 nb (by omega)).trans hN
      have hH2 := (e12 8 (by omega)).trans hH
      have hT2 := hT.fr (M2 := M2) (fun q q1 q2 => e12 _ (by omega))
      have hml2 := hml.fr (M2 := M2) (fun q q1 q2 q3 => e12 _ (by omega))
      have h572 := (e12 57 (by omega)).trans h57
      refine hz_aloadn (pc := 57) 0 (hz_dec kX11_keepOrphan 26 rfl) rfl ?_
      refine hz_aloadn (pc := 58) 1 (hz_dec kX11_keepOrphan 27 rfl) rfl ?_
      refine hz_callV (pc := 59) (a := 8) (As := [.ref nb]) (st := []) (hz_dec kX11_keepOrphan 28 rfl) co_X11_495 im_X11_sendAsk se_X11_sendAsk rfl hH2 (by omega) (by omega) (c_sAsk hz63 hH2 hnn hN2 hnb hnbz hvn hT2 hml2 hto h572) rfl (by decide) ⟨Nat.le_refl _, Nat.le_refl _⟩ (Nat.le_of_ble_eq_true rfl) rfl (fun r9 z9 M3 hp9 => ?_)
      obtain ⟨rfl, rfl, hf3, h573, hml3⟩ := hp9
      have e13 : ∀ q, (q < nb + 15 ∨ nb + 21 ≤ q) ∧ (q < 45 ∨ 53 ≤ q) ∧ (q < 57 ∨ 58 ≤ q) → M3 q = M q := fun q hq => (hf3.at2 (by omega)).trans (e12 q (by omega))
      have eL : ksL (ksO S l (sd1 now (nI v) fr (nI 2) d (akT (ksB S) (enB (ksB S)) (ksT S)) (ksQ S))) = loD (ksL S) ++ [l] := by show loA (ksL S) l = _; unfold loA; rw [if_neg (by rw [eN]; decide)]
      have hR3 : kcR M3 z nb nn v tl tr now fr kn rc rf (nI 1) dl l.length (ksO S l (sd1 now (nI v) fr (nI 2) d (akT (ksB S) (enB (ksB S)) (ksT S)) (ksQ S))) := ⟨(e13 _ (by omega)).trans hH, (by obtain ⟨f9, q1, q2⟩ := hNs; exact ⟨f9, (e13 _ (by omega)).trans q1, q2⟩), (e13 _ (by omega)).trans hN, ⟨gD, (e13 _ (by omega)).trans hD, hDX⟩, hT.fr (fun q q1 q2 => e13 _ (by omega)), hc.fr (fun q q1 q2 => e13 _ (by omega)), hp.fr (fun q q1 q2 => e13 _ (by omega)), (by rw [eL]; exact hL2.fr (fun q q1 q2 => hf3.at2 (by omega))), hJ.al (fun q q1 q2 => e13 _ (by omega)), hml3, ⟨_, (e13 _ (by omega)).trans h53⟩, ⟨_, h58.fr (fun q q1 q2 => e13 _ (by omega))⟩, _, (e13 _ (by omega)).trans h61⟩
      exact hz_vret (pc := 62) (hz_dec kX11_keepOrphan 29 rfl) rfl ⟨rfl, rfl, fun q hq => by simp only [outS, and_true] at hq; exact e13 q (by omega), ⟨l.length, by rw [if_neg (by rw [eN]; decide)]; exact hR3⟩, h573⟩
    · skip
      refine hz_aloadn (pc := 27) 1 (hz_dec kX11_keepOrphan 12 rfl) rfl ?_
      refine hz_iconst (pc := 28) (v := nI 0) (hz_dec kX11_keepOrphan 13 rfl) (by decide) ?_
      refine hz_callV (pc := 29) (a := nb) (As := [.int (nI 0)]) (st := []) (hz_dec kX11_keepOrphan 14 rfl) co_X11_484 im_X6_removeLost se_X6_removeLost rfl hN (by omega) (by omega) (c_rmLo hN hnb hnbz hL i5 (k0 := 0) (by omega)) rfl (by decide) ⟨Nat.le_refl _, Nat.le_refl _⟩ (Nat.le_of_ble_eq_true rfl) rfl (fun r9 z9 M1 hp9 => ?_)
      obtain ⟨rfl, rfl, hf1, hL1x⟩ := hp9
      have hN1 := (hf1.at1 (q := nb) (by omega)).trans hN
      have hgl1 := (hf1.at1 (q := 53) (by omega)).trans hgl
      have h371 := (hf1.at1 (q := 37) (by omega)).trans h37
      have hL1 : loR M1 nb (loD (ksL S)) := by unfold loD; rw [if_pos h2]; exact hL1x
      have hH1 := (hf1.at1 (q := 8) (by omega)).trans hH
      have hj1 := (hf1.at1 (q := 25) (by omega)).trans hj
      have hml1 := (hf1.at1 (q := 45) (by omega)).trans hml.1
      refine hz_aloadn (pc := 32) 1 (hz_dec kX11_keepOrphan 15 rfl) rfl ?_
      refine hz_aloadn (pc := 33) 0 (hz_dec kX11_keepOrphan 16 rfl) rfl ?_
      refine hz_get (pc := 34) (hz_dec kX11_keepOrphan 17 rfl) fo_X11_62 hH1 (by omega) (by omega) rfl ?_
      refine hz_get (pc := 37) (hz_dec kX11_keepOrphan 18 rfl) fo_X11_450 hml1 (by omega) (by omega) rfl ?_
      refine hz_aloadn (pc := 40) 0 (hz_dec kX11_keepOrphan 19 rfl) rfl ?_
      refine hz_get (pc := 41) (hz_dec kX11_keepOrphan 20 rfl) fo_X11_62 hH1 (by omega) (by omega) rfl ?_
      refine hz_get (pc := 44) (hz_dec kX11_keepOrphan 21 rfl) fo_X11_453 hml1 (by omega) (by omega) rfl ?_
      refine hz_aloadn (pc := 47) 0 (hz_dec kX11_keepOrphan 22 rfl) rfl ?_
      refine hz_get (pc := 48) (hz_dec kX11_keepOrphan 23 rfl) fo_X11_46 hH1 (by omega) (by omega) rfl ?_
      refine hz_get (pc := 51) (hz_dec kX11_keepOrphan 24 rfl) fo_X11_108 hj1 (by omega) (by omega) rfl ?_
      refine hz_callV (pc := 54) (a := nb) (As := [.ref 53, .int (nI (l.length)), .ref 37]) (st := []) (hz_dec kX11_keepOrphan 25 rfl) co_X11_491 im_X6_addLost se_X6_addLost rfl hN1 (by omega) (by omega) (c_adLo hN1 hnb hnbz hL1 (loD_w i5).1 hgl1 (by decide) (by omega) (by decide) hgA (by omega) hW h371 (by decide) (by omega) (by omega) (by decide) h37A (by decide) (loD_w i5).2) rfl (by decide) ⟨Nat.le_refl _, Nat.le_refl _⟩ (Nat.le_of_ble_eq_true rfl) rfl (fun r9 z9 M2 hp9 => ?_)
      obtain ⟨rfl, rfl, hf2, hL2⟩ := hp9
      have e12 : ∀ q, (q < nb + 15 ∨ nb + 21 ≤ q) → M2 q = M q := fun q hq => (hf2.at1 (by omega)).trans (hf1.at1 (by omega))
      have hN2 := (e12 nb (by omega)).trans hN
      have hH2 := (e12 8 (by omega)).trans hH
      have hT2 := hT.fr (M2 := M2) (fun q q1 q2 => e12 _ (by omega))
      have hml2 := hml.fr (M2 := M2) (fun q q1 q2 q3 => e12 _ (by omega))
      have h572 := (e12 57 (by omega)).trans h57
      refine hz_aloadn (pc := 57) 0 (hz_dec kX11_keepOrphan 26 rfl) rfl ?_
      refine hz_aloadn (pc := 58) 1 (hz_dec kX11_keepOrphan 27 rfl) rfl ?_
      refine hz_callV (pc := 59) (a := 8) (As := [.ref nb]) (st := []) (hz_dec kX11_keepOrphan 28 rfl) co_X11_495 im_X11_sendAsk se_X11_sendAsk rfl hH2 (by omega) (by omega) (c_sAsk hz63 hH2 hnn hN2 hnb hnbz hvn hT2 hml2 hto h572) rfl (by decide) ⟨Nat.le_refl _, Nat.le_refl _⟩ (Nat.le_of_ble_eq_true rfl) rfl (fun r9 z9 M3 hp9 => ?_)
      obtain ⟨rfl, rfl, hf3, h573, hml3⟩ := hp9
      have e13 : ∀ q, (q < nb + 15 ∨ nb + 21 ≤ q) ∧ (q < 45 ∨ 53 ≤ q) ∧ (q < 57 ∨ 58 ≤ q) → M3 q = M q := fun q hq => (hf3.at2 (by omega)).trans (e12 q (by omega))
      have eL : ksL (ksO S l (sd1 now (nI v) fr (nI 2) d (akT (ksB S) (enB (ksB S)) (ksT S)) (ksQ S))) = loD (ksL S) ++ [l] := by show loA (ksL S) l = _; unfold loA; rw [if_neg (by rw [eN]; decide)]
      have hR3 : kcR M3 z nb nn v tl tr now fr kn rc rf (nI 1) dl l.length (ksO S l (sd1 now (nI v) fr (nI 2) d (akT (ksB S) (enB (ksB S)) (ksT S)) (ksQ S))) := ⟨(e13 _ (by omega)).trans hH, (by obtain ⟨f9, q1, q2⟩ := hNs; exact ⟨f9, (e13 _ (by omega)).trans q1, q2⟩), (e13 _ (by omega)).trans hN, ⟨gD, (e13 _ (by omega)).trans hD, hDX⟩, hT.fr (fun q q1 q2 => e13 _ (by omega)), hc.fr (fun q q1 q2 => e13 _ (by omega)), hp.fr (fun q q1 q2 => e13 _ (by omega)), (by rw [eL]; exact hL2.fr (fun q q1 q2 => hf3.at2 (by omega))), hJ.al (fun q q1 q2 => e13 _ (by omega)), hml3, ⟨_, (e13 _ (by omega)).trans h53⟩, ⟨_, h58.fr (fun q q1 q2 => e13 _ (by omega))⟩, _, (e13 _ (by omega)).trans h61⟩
      exact hz_vret (pc := 62) (hz_dec kX11_keepOrphan 29 rfl) rfl ⟨rfl, rfl, fun q hq => by simp only [outS, and_true] at hq; exact e13 q (by omega), ⟨l.length, by rw [if_neg (by rw [eN]; decide)]; exact hR3⟩, h573⟩
  · skip
    have eN : isLo (ksL S) (haS l) = true := hz_b1 h1
    exact hz_vret (pc := 14) (hz_dec kX11_keepOrphan 6 rfl) rfl ⟨rfl, rfl, frS.rf, ⟨l.length, by rw [if_pos eN]; exact hR⟩, _, h57⟩
set_option maxHeartbeats 4000000 in
set_option maxRecDepth 100000 in
theorem c_tkBlk {κ : hz_C} {z nb nn v tl : Nat} {tr now fr kn rc rf : Int32} {dl : Nat → Nat} (hnb : 63 ≤ nb) (hnbz : nb + 34 ≤ z) (hnn : nn ≤ 6) (hvn : v < nn) {d : Nat} (hto : (∃ b, b < nn ∧ fr = nI b ∧ d = dl (6 * v + b)) ∨ (fr < 0 ∧ d = 0)) {M : hz_M} {S : ks_S} {l : by_L} (hR : kcR M z nb nn v tl tr now fr kn rc rf (nI 1) dl l.length S) (hI : ksI S) (hl4 : l.length ≤ 4000) {gl : Nat → Int32} (hgl : M 53 = .inl (1, 4000, .inl gl)) (hgA : isA gl 0 l) {g57 : Nat → Int32} (h57 : M 57 = .inl (1, 1280, .inl g57)) : hz_Mt κ xX11_takeBlock 16 0 0 [.ref 8, .ref nb] z M (fun r z2 M2 => some (.int (tkB nn dl now v fr d S l).2.2) = r ∧ z = z2 ∧ frS [(9, 39), (45, 54), (57, 62), (nb, nb + 34)] M M2 ∧ (∃ ll, kcR M2 z nb nn v tl tr now fr kn rc rf (hz_b (tkB nn dl now v fr d S l).2.1) dl ll (tkB nn dl now v fr d S l).1) ∧ ∃ g : Nat → Int32, M2 57 = .inl (1, 1280, .inl g)) := by
  refine hz_ent (lo := [(0, .ref 8), (1, .ref nb)]) (by decide) (Nat.le_of_ble_eq_true rfl) rfl ?_
  obtain ⟨hH, hNs, hN, ⟨gD, hD, hDX⟩, hT, hc, hp, hL, hJ, hml, ⟨g53, h53⟩, ⟨L58, h58⟩, g61, h61⟩ := id hR
  obtain ⟨i1, i2, i3, i4, i5⟩ := id hI
  obtain ⟨bf, fe, hj⟩ := id hJ.1
  have hz63 : 63 ≤ z := by omega
  have htop := i1.top
  have hv9 := ksJ_lt S l
  refine hz_aloadn (pc := 0) 0 (hz_dec kX11_takeBlock 0 rfl) rfl ?_
  refine hz_get (pc := 1) (hz_dec kX11_takeBlock 1 rfl) fo_X11_46 hH (by omega) (by omega) rfl ?_
  refine hz_aloadn (pc := 4) 1 (hz_dec kX11_takeBlock 2 rfl) rfl ?_
  refine hz_aloadn (pc := 5) 0 (hz_dec kX11_takeBlock 3 rfl) rfl ?_
  refine hz_get (pc := 6) (hz_dec kX11_takeBlock 4 rfl) fo_X11_62 hH (by omega) (by omega) rfl ?_
  refine hz_get (pc := 9) (hz_dec kX11_takeBlock 5 rfl) fo_X11_450 hml.1 (by omega) (by omega) rfl ?_
  refine hz_aloadn (pc := 12) 0 (hz_dec kX11_takeBlock 6 rfl) rfl ?_
  refine hz_get (pc := 13) (hz_dec kX11_takeBlock 7 rfl) fo_X11_62 hH (by omega) (by omega) rfl ?_
  refine hz_get (pc := 16) (hz_dec kX11_takeBlock 8 rfl) fo_X11_453 hml.1 (by omega) (by omega) rfl ?_
  refine hz_iconst (pc := 19) (v := nI 1) (hz_dec kX11_takeBlock 9 rfl) (by decide) ?_
  have qo := c_ofBlk (κ := κ) (od := true) hN hnb hnbz (by omega) hT i1.2.2.2.2.2.1 (fun k hk => (i1.cb hk).1) (fun k hk => (i1.cb hk).2) hJ hgl (by decide) (by omega) (by omega) (by decide) hgA (by omega)
  refine hz_callV (pc := 20) (a := 25) (As := [.ref nb, .ref 53, .int (nI (l.length)), .int (nI 1)]) (st := []) (hz_dec kX11_takeBlock 10 rfl) co_X11_288 im_X3_ofBlock se_X3_ofBlock rfl hj (by omega) (by omega) (qo) rfl (by omega) ⟨Nat.le_refl _, Nat.le_refl _⟩ (Nat.le_of_ble_eq_true rfl) rfl (fun r9 z9 M3 hp9 => ?_)
  obtain ⟨rfl, rfl, hf3, hT3, hJ3, hh3, hz3⟩ := hp9
  refine hz_eqi (pc := 23) (show _ = nI (ksJ S l) from rfl) ?_
  have hR3 : kcR M3 z nb nn v tl tr now fr kn rc rf (nI 1) dl l.length S := ⟨(hf3.at2 (by omega)).trans hH, (by obtain ⟨f9, q1, q2⟩ := hNs; exact ⟨f9, (hf3.at2 (by omega)).trans q1, q2⟩), (hf3.at2 (by omega)).trans hN, ⟨gD, (hf3.at2 (by omega)).trans hD, hDX⟩, hT3, hc.fr (fun q q1 q2 => hf3.at2 (by omega)), hp.fr (fun q q1 q2 => hf3.at2 (by omega)), hL.fr (fun q q1 q2 => hf3.at2 (by omega)), hJ3, hml.fr (fun q q1 q2 q3 => hf3.at2 (by omega)), ⟨_, (hf3.at2 (by omega)).trans h53⟩, ⟨_, h58.fr (fun q q1 q2 => hf3.at2 (by omega))⟩, _, (hf3.at2 (by omega)).trans h61⟩
  have hgl3 := (hf3.at2 (q := 53) (by omega)).trans hgl
  have h573 := (hf3.at2 (q := 57) (by omega)).trans h57
  have hH3 := (hf3.at2 (q := 8) (by omega)).trans hH
  have hfr3 : frS [(9, 39), (45, 54), (57, 62), (nb, nb + 34)] M M3 := hf3.mono (fun q hq => by simp only [outS, and_true] at hq ⊢; omega)
  refine hz_istoren (pc := 23) (i := 2) (lo2 := [(2, .int (nI (ksJ S l))), (0, .ref 8), (1, .ref nb)]) (hz_dec kX11_takeBlock 11 rfl) rfl (by decide) rfl ?_
  refine hz_iloadn (pc := 24) 0 (hz_dec kX11_takeBlock 12 rfl) rfl ?_
  refine hz_bipush (pc := 25) (v := nI 6) (hz_dec kX11_takeBlock 13 rfl) (by decide) ?_
  refine hz_n_ne (pc := 27) (tgt := 35) (hz_dec kX11_takeBlock 14 rfl) (by decide) (by omega) (by omega) (fun h1 => ?_) (fun h1 => ?_)
  · skip
    refine hz_iloadn (pc := 35) 0 (hz_dec kX11_takeBlock 18 rfl) rfl ?_
    refine hz_z_ne (pc := 36) (tgt := 51) (hz_dec kX11_takeBlock 19 rfl) (by decide) (by omega) (fun h2 => ?_) (fun h2 => ?_)
    · skip
      have eT : (tkB nn dl now v fr d S l) = (S, true, nI (ksJ S l)) := by unfold tkB; rw [if_neg (by omega), if_neg (by omega)]
      refine hz_iloadn (pc := 51) 0 (hz_dec kX11_takeBlock 27 rfl) rfl ?_
      exact hz_iret (pc := 52) (hz_dec kX11_takeBlock 28 rfl) rfl ⟨by rw [eT], rfl, hfr3, ⟨l.length, by rw [eT]; exact hR3⟩, _, h573⟩
    · skip
      have hj0 : ksJ S l = 0 := by omega
      have eT : (tkB nn dl now v fr d S l) = ((kp nn dl now v fr 9 S l).1, (kp nn dl now v fr 9 S l).2, if (kp nn dl now v fr 9 S l).2 = true then nI 0 else -2) := by unfold tkB; rw [if_pos hj0]
      obtain ⟨⟨fe3, hjz⟩, fi3, h383, hfi3⟩ := hz3 hj0
      obtain ⟨fh3, h373, hh3A⟩ := hh3 (by have q : jBk (ksB S) (enB (ksB S)) l (nrB (ksN S) l.length true) = 0 := hj0; omega)
      refine hz_aloadn (pc := 39) 1 (hz_dec kX11_takeBlock 20 rfl) rfl ?_
      refine hz_aloadn (pc := 40) 2 (hz_dec kX11_takeBlock 21 rfl) rfl ?_
      refine hz_iconst (pc := 41) (v := nI 0) (hz_dec kX11_takeBlock 22 rfl) (by decide) ?_
      have hq := c_keep (κ := κ) (tl := tl) (tr := tr) (now := now) (fr := fr) (kn := kn) (rc := rc) (rf := rf) (dl := dl) hnb hnbz hnn hvn 9 0 rfl S l M3 hR3 ⟨⟨_, hgl3, hgA⟩, ⟨_, h373, hh3A⟩, ⟨_, hjz⟩, _, h383, hfi3⟩ hI hj0 i5.1
      refine hz_callV (pc := 42) (a := 8) (As := [.ref nb, .int (nI 0)]) (st := []) (hz_dec kX11_takeBlock 23 rfl) co_X11_460 im_X11_keep se_X11_keep rfl hH3 (by omega) (by omega) (hq) rfl (by omega) ⟨Nat.le_refl _, Nat.le_refl _⟩ (Nat.le_of_ble_eq_true rfl) rfl (fun r9 z9 M4 hp9 => ?_)
      obtain ⟨rfl, rfl, hf4, ll4, hR4⟩ := hp9
      have hfr4 : frS [(9, 39), (45, 54), (57, 62), (nb, nb + 34)] M M4 := hfr3.tr (hf4.mono (fun q hq => by simp only [outS, and_true] at hq ⊢; omega))
      have h574 := (hf4.at4 (q := 57) (by omega)).trans h573
      refine hz_if_ne (pc := 45) (tgt := 51) (hz_dec kX11_takeBlock 24 rfl) (by decide) (fun h6 => ?_) (fun h6 => ?_)
      · skip
        have e4 : (kp nn dl now v fr 9 S l).2 = true := hz_b1 h6
        refine hz_iloadn (pc := 51) 0 (hz_dec kX11_takeBlock 27 rfl) rfl ?_
        exact hz_iret (pc := 52) (hz_dec kX11_takeBlock 28 rfl) rfl ⟨by rw [eT, e4, if_pos rfl, hj0], rfl, hfr4, ⟨ll4, by rw [eT]; exact hR4⟩, _, h574⟩
      · skip
        have e4 : (kp nn dl now v fr 9 S l).2 = false := hz_b0 h6
        refine hz_bipush (pc := 48) (v := (-2)) (hz_dec kX11_takeBlock 25 rfl) (by decide) ?_
        exact hz_iret (pc := 50) (hz_dec kX11_takeBlock 26 rfl) rfl ⟨by rw [eT, e4]; rfl, rfl, hfr4, ⟨ll4, by rw [eT]; exact hR4⟩, _, h574⟩
  · skip
    have hj6 : ksJ S l = 6 := h1
    have eT : (tkB nn dl now v fr d S l) = (if isLo (ksL S) (haS l) = true then S else ksO S l (sd1 now (nI v) fr (nI 2) d (akT (ksB S) (enB (ksB S)) (ksT S)) (ksQ S)), true, nI 6) := by unfold tkB; rw [if_neg (by omega), if_pos hj6]
    have hj6x : jBk (ksB S) (enB (ksB S)) l (nrB (ksN S) l.length true) = 6 := hj6
    obtain ⟨fh3, h373, hh3A⟩ := hh3 (by omega)
    refine hz_aloadn (pc := 30) 1 (hz_dec kX11_takeBlock 15 rfl) rfl ?_
    refine hz_aloadn (pc := 31) 2 (hz_dec kX11_takeBlock 16 rfl) rfl ?_
    refine hz_callV (pc := 32) (a := 8) (As := [.ref nb]) (st := []) (hz_dec kX11_takeBlock 17 rfl) co_X11_456 im_X11_keepOrphan se_X11_keepOrphan rfl hH3 (by omega) (by omega) (c_kOrp hnb hnbz hnn hvn hto hR3 hI hl4 hgl3 hgA h573 (jBk_6 (by omega : ¬ jBk (ksB S) (enB (ksB S)) l (nrB (ksN S) l.length true) = 1)) h373 hh3A) rfl (by omega) ⟨Nat.le_refl _, Nat.le_refl _⟩ (Nat.le_of_ble_eq_true rfl) rfl (fun r9 z9 M4 hp9 => ?_)
    obtain ⟨rfl, rfl, hf4, ⟨ll4, hR4⟩, h574⟩ := hp9
    have hfr4 : frS [(9, 39), (45, 54), (57, 62), (nb, nb + 34)] M M4 := hfr3.tr hf4
    refine hz_iloadn (pc := 35) 0 (hz_dec kX11_takeBlock 18 rfl) rfl ?_
    refine hz_z_ne (pc := 36) (tgt := 51) (hz_dec kX11_takeBlock 19 rfl) (by decide) (by omega) (fun h2 => ?_) (fun h2 => ?_)
    · skip
      refine hz_iloadn (pc := 51) 0 (hz_dec kX11_takeBlock 27 rfl) rfl ?_
      exact hz_iret (pc := 52) (hz_dec kX11_takeBlock 28 rfl) rfl ⟨by rw [eT, hj6], rfl, hfr4, ⟨ll4, by rw [eT]; exact hR4⟩, h574⟩
    · skip
      exact absurd h2 (by omega)
set_option maxHeartbeats 4000000 in
set_option maxRecDepth 100000 in
theorem c_tkTx {κ : hz_C} {z nb nn v tl : Nat} {tr now fr kn rc rf : Int32} {dl : Nat → Nat} (hnb : 63 ≤ nb) (hnbz : nb + 34 ≤ z) (hnn : nn ≤ 6) (hvn : v < nn) {d : Nat} (hto : (∃ b, b < nn ∧ fr = nI b ∧ d = dl (6 * v + b)) ∨ (fr < 0 ∧ d = 0)) {M : hz_M} {S : ks_S} {l : by_L} (hR : kcR M z nb nn v tl tr now fr kn rc rf (nI 1) dl l.length S) (hI : ksI S) (hl4 : l.length ≤ 4000) {gl : Nat → Int32} (hgl : M 53 = .inl (1, 4000, .inl gl)) (hgA : isA gl 0 l) {g57 : Nat → Int32} (h57 : M 57 = .inl (1, 1280, .inl g57)) : hz_Mt κ xX11_takeTransaction 5 0 0 [.ref 8, .ref nb] z M (fun r z2 M2 => some (.int (nI (ksV S l))) = r ∧ z = z2 ∧ frS [(9, 39), (45, 54), (58, 62), (nb, nb + 34)] M M2 ∧ kcR M2 z nb nn v tl tr now fr kn rc rf (nI 1) dl l.length (tkT nn dl now v fr S l)) := by
  refine hz_ent (lo := [(0, .ref 8), (1, .ref nb)]) (by decide) (Nat.le_of_ble_eq_true rfl) rfl ?_
  obtain ⟨hH, hNs, hN, ⟨gD, hD, hDX⟩, hT, hc, hp, hL, hJ, hml, ⟨g53, h53⟩, ⟨L58, h58⟩, g61, h61⟩ := id hR
  obtain ⟨i1, i2, i3, i4, i5⟩ := id hI
  obtain ⟨bf, fe, hj⟩ := id hJ.1
  have hz63 : 63 ≤ z := by omega
  have hv9 := ksV_lt S l
  refine hz_aloadn (pc := 0) 0 (hz_dec kX11_takeTransaction 0 rfl) rfl ?_
  refine hz_get (pc := 1) (hz_dec kX11_takeTransaction 1 rfl) fo_X11_46 hH (by omega) (by omega) rfl ?_
  refine hz_aloadn (pc := 4) 1 (hz_dec kX11_takeTransaction 2 rfl) rfl ?_
  refine hz_aloadn (pc := 5) 0 (hz_dec kX11_takeTransaction 3 rfl) rfl ?_
  refine hz_get (pc := 6) (hz_dec kX11_takeTransaction 4 rfl) fo_X11_62 hH (by omega) (by omega) rfl ?_
  refine hz_get (pc := 9) (hz_dec kX11_takeTransaction 5 rfl) fo_X11_450 hml.1 (by omega) (by omega) rfl ?_
  refine hz_iconst (pc := 12) (v := nI 0) (hz_dec kX11_takeTransaction 6 rfl) (by decide) ?_
  refine hz_aloadn (pc := 13) 0 (hz_dec kX11_takeTransaction 7 rfl) rfl ?_
  refine hz_get (pc := 14) (hz_dec kX11_takeTransaction 8 rfl) fo_X11_62 hH (by omega) (by omega) rfl ?_
  refine hz_get (pc := 17) (hz_dec kX11_takeTransaction 9 rfl) fo_X11_453 hml.1 (by omega) (by omega) rfl ?_
  refine hz_iconst (pc := 20) (v := nI 1) (hz_dec kX11_takeTransaction 10 rfl) (by decide) ?_
  refine hz_callV (pc := 21) (a := 25) (As := [.ref nb, .ref 53, .int (nI 0), .int (nI (l.length)), .int (nI 1)]) (st := []) (hz_dec kX11_takeTransaction 11 rfl) co_X11_292 im_X3_forPool se_X3_forPool rfl hj (by omega) (by omega) (c_forPool (wi := true) hN hnb hnbz hT hc (i1.cb i2).2.2 hp i4 hJ hgl (by decide) (by omega) (by omega) (by decide) hgA (by omega)) rfl (by omega) ⟨Nat.le_refl _, Nat.le_refl _⟩ (Nat.le_of_ble_eq_true rfl) rfl (fun r9 z9 M2 hp9 => ?_)
  obtain ⟨rfl, rfl, hf2, hJ2, hp2⟩ := hp9
  refine hz_eqi (pc := 24) (show _ = nI (ksV S l) from rfl) ?_
  have hH2 := (hf2.at3 (q := 8) (by omega)).trans hH
  have hN2 := (hf2.at3 (q := nb) (by omega)).trans hN
  have hml2 := hml.fr (M2 := M2) (fun q q1 q2 q3 => hf2.at3 (by omega))
  have hgl2 := (hf2.at3 (q := 53) (by omega)).trans hgl
  have hNs2 : nsR M2 nn := by obtain ⟨f9, q1, q2⟩ := hNs; exact ⟨f9, (hf2.at3 (by omega)).trans q1, q2⟩
  refine hz_istoren (pc := 24) (i := 2) (lo2 := [(2, .int (nI (ksV S l))), (0, .ref 8), (1, .ref nb)]) (hz_dec kX11_takeTransaction 12 rfl) rfl (by decide) rfl ?_
  refine hz_iloadn (pc := 25) 0 (hz_dec kX11_takeTransaction 13 rfl) rfl ?_
  refine hz_z_ne (pc := 26) (tgt := 51) (hz_dec kX11_takeTransaction 14 rfl) (by decide) (by omega) (fun h1 => ?_) (fun h1 => ?_)
  · skip
    refine hz_iloadn (pc := 51) 0 (hz_dec kX11_takeTransaction 26 rfl) rfl ?_
    exact hz_iret (pc := 52) (hz_dec kX11_takeTransaction 27 rfl) rfl ⟨rfl, rfl, hf2.mono (fun q hq => by simp only [outS, and_true] at hq ⊢; omega), (hf2.at3 (by omega)).trans hH, hNs2, (hf2.at3 (by omega)).trans hN, ⟨gD, (hf2.at3 (by omega)).trans hD, hDX⟩, hT.fr (fun q q1 q2 => hf2.at3 (by omega)), hc.fr (fun q q1 q2 => hf2.at3 (by omega)), hp2, hL.fr (fun q q1 q2 => hf2.at3 (by omega)), hJ2, (by show mlR M2 nn now (if ksV S l = 0 then _ else _) dl l.length fr kn; rw [if_neg (by omega)]; exact hml2), ⟨_, (hf2.at3 (by omega)).trans h53⟩, ⟨_, h58.fr (fun q q1 q2 => hf2.at3 (by omega))⟩, _, (hf2.at3 (by omega)).trans h61⟩
  · skip
    refine hz_aloadn (pc := 29) 1 (hz_dec kX11_takeTransaction 15 rfl) rfl ?_
    refine hz_aloadn (pc := 30) 2 (hz_dec kX11_takeTransaction 16 rfl) rfl ?_
    refine hz_aloadn (pc := 31) 1 (hz_dec kX11_takeTransaction 17 rfl) rfl ?_
    refine hz_get (pc := 32) (hz_dec kX11_takeTransaction 18 rfl) fo_X11_62 hH2 (by omega) (by omega) rfl ?_
    refine hz_get (pc := 35) (hz_dec kX11_takeTransaction 19 rfl) fo_X11_450 hml2.1 (by omega) (by omega) rfl ?_
    refine hz_iconst (pc := 38) (v := nI 0) (hz_dec kX11_takeTransaction 20 rfl) (by decide) ?_
    refine hz_aloadn (pc := 39) 1 (hz_dec kX11_takeTransaction 21 rfl) rfl ?_
    refine hz_get (pc := 40) (hz_dec kX11_takeTransaction 22 rfl) fo_X11_62 hH2 (by omega) (by omega) rfl ?_
    refine hz_get (pc := 43) (hz_dec kX11_takeTransaction 23 rfl) fo_X11_453 hml2.1 (by omega) (by omega) rfl ?_
    refine hz_bipush (pc := 46) (v := nI 6) (hz_dec kX11_takeTransaction 24 rfl) (by decide) ?_
    refine hz_callV (pc := 48) (a := 8) (As := [.ref nb, .ref 53, .int (nI 0), .int (nI (l.length)), .int (nI 6)]) (st := []) (hz_dec kX11_takeTransaction 25 rfl) co_X11_477 im_X11_tell se_X11_tell rfl hH2 (by omega) (by omega) (c_tell hz63 hH2 hnn hNs2 hN2 hnb (by omega) hvn hgl2 (by decide) (by omega) (by decide) (by decide) hgA (by omega) hl4 (kd := nI 6) hml2) rfl (by omega) ⟨Nat.le_refl _, Nat.le_refl _⟩ (Nat.le_of_ble_eq_true rfl) rfl (fun r9 z9 M3 hp9 => ?_)
    obtain ⟨rfl, rfl, hf3, hml3⟩ := hp9
    have e13 : ∀ q, (q < 9 ∨ 20 ≤ q) ∧ (q < 25 ∨ 26 ≤ q) ∧ (q < nb + 10 ∨ nb + 14 ≤ q) ∧ (q < 45 ∨ 53 ≤ q) → M3 q = M q := fun q hq => (hf3.at1 (by omega)).trans (hf2.at3 (by omega))
    refine hz_iloadn (pc := 51) 0 (hz_dec kX11_takeTransaction 26 rfl) rfl ?_
    exact hz_iret (pc := 52) (hz_dec kX11_takeTransaction 27 rfl) rfl ⟨rfl, rfl, fun q hq => by simp only [outS, and_true] at hq; exact e13 q (by omega), (e13 _ (by omega)).trans hH, (by obtain ⟨f9, q1, q2⟩ := hNs; exact ⟨f9, (e13 _ (by omega)).trans q1, q2⟩), (e13 _ (by omega)).trans hN, ⟨gD, (e13 _ (by omega)).trans hD, hDX⟩, hT.fr (fun q q1 q2 => e13 _ (by omega)), hc.fr (fun q q1 q2 => e13 _ (by omega)), hp2.fr (fun q q1 q2 => hf3.at1 (by omega)), hL.fr (fun q q1 q2 => e13 _ (by omega)), hJ2.al (fun q q1 q2 => hf3.at1 (by omega)), (by show mlR M3 nn now (if ksV S l = 0 then _ else _) dl l.length fr kn; rw [if_pos (by omega)]; exact hml3), ⟨_, (e13 _ (by omega)).trans h53⟩, ⟨_, h58.fr (fun q q1 q2 => e13 _ (by omega))⟩, _, (e13 _ (by omega)).trans h61⟩
