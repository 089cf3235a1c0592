/-! tellTips: the class -/
def ttQ (ns : List nd_N) (dl : Nat → Nat) (now : Int32) : Nat → mq_S → mq_S
  | 0, s => s
  | n + 1, s => if (ndL ns n).2.1 = true then tlQ dl now n (-1) (nI 1) (haS (bBy (ksB (ndL ns n).1) (ksT (ndL ns n).1))) ns.length (ttQ ns dl now n s) else ttQ ns dl now n s
set_option maxHeartbeats 4000000 in
set_option maxRecDepth 100000 in
theorem c_tt_l {κ : hz_C} {z : Nat} {M : hz_M} {H : ho_H} (hz : 63 + 34 * (hoN H).length ≤ z) (hnn : (hoN H).length ≤ 6) {s0 : mq_S} {ll : Nat} {kn : Int32} : ∀ k i M2, k = (hoN H).length - i → i ≤ (hoN H).length → frS [(45, 53)] M M2 → hcR M2 z (hoq H (ttQ (hoN H) (hoD H) (hoW H) i s0)) ll (-1) kn → hz_W κ xX11_tellTips 4 0 0 (fun r z2 M3 => none = r ∧ z = z2 ∧ frS [(45, 53)] M M3 ∧ hcR M3 z (hoq H (ttQ (hoN H) (hoD H) (hoW H) (hoN H).length s0)) ll (-1) kn) 0 0 10 [(1, .int (nI i)), (0, .ref 8)] [] z M2 := by
  intro k
  induction k using Nat.strongRecOn with
  | ind k ih =>
  intro i M2 hk hi hf hR
  generalize hs : (ttQ (hoN H) (hoD H) (hoW H) i s0) = s at hR
  obtain ⟨hH, hNs, hNd, hJ, hml, ⟨g53, h53⟩, hrest⟩ := id hR
  replace hNs : nsR M2 (hoN H).length := hNs
  replace hNd : ∀ v, v < (hoN H).length → ndR M2 (63 + 34 * v) v (ndL (hoN H) v) := hNd
  replace hml : mlR M2 (hoN H).length (hoW H) s (hoD H) ll (-1) kn := hml
  replace hH : M2 8 = hoO (hoT H).length (hoE H) := hH
  obtain ⟨hO, hQ, hD⟩ := id hml
  obtain ⟨fN, h55, hfN⟩ := id hNs
  have hz63 : 63 ≤ z := by omega
  refine hz_iloadn (pc := 10) 0 (hz_dec kX11_tellTips 6 rfl) rfl ?_
  refine hz_aloadn (pc := 11) 1 (hz_dec kX11_tellTips 7 rfl) rfl ?_
  refine hz_get (pc := 12) (hz_dec kX11_tellTips 8 rfl) fo_X11_68 hH (by omega) (by omega) rfl ?_
  refine hz_alen (pc := 15) (hz_dec kX11_tellTips 9 rfl) h55 (by decide) (by omega) (by omega) ?_
  refine hz_n_ge (pc := 16) (tgt := 71) (hz_dec kX11_tellTips 10 rfl) (by decide) (by omega) (by omega) (fun h1 => ?_) (fun h1 => ?_)
  · skip
    have e : i = (hoN H).length := by omega
    have hs2 : (ttQ (hoN H) (hoD H) (hoW H) (hoN H).length s0) = s := e ▸ hs
    exact hz_vret (pc := 71) (hz_dec kX11_tellTips 39 rfl) rfl ⟨rfl, rfl, hf, by rw [hs2]; exact hR⟩
  · skip
    obtain ⟨n1, ⟨gD, n2, n2x⟩, hT, hc, hp, hL⟩ := hNd i h1
    have hTO := hT.1
    obtain ⟨-, -, ⟨fh, hfh, hfhX⟩, -, -, -, -, -, w1, w2, w3, w4, w5, w6⟩ := id hT
    refine hz_aloadn (pc := 19) 1 (hz_dec kX11_tellTips 11 rfl) rfl ?_
    refine hz_get (pc := 20) (hz_dec kX11_tellTips 12 rfl) fo_X11_68 hH (by omega) (by omega) rfl ?_
    refine hz_iloadn (pc := 23) 0 (hz_dec kX11_tellTips 13 rfl) rfl ?_
    refine hz_aald (pc := 24) (j := i) (r := 63 + 34 * i) (hz_dec kX11_tellTips 14 rfl) h55 (by omega) (by omega) rfl (by omega) (by omega) (hfN i h1) ?_
    refine hz_get (pc := 25) (hz_dec kX11_tellTips 15 rfl) fo_X11_104 n1 (by omega) (by omega) rfl ?_
    refine hz_astoren (pc := 28) (i := 2) (lo2 := [(2, .ref (63 + 34 * i + 21)), (1, .int (nI i)), (0, .ref 8)]) (hz_dec kX11_tellTips 16 rfl) rfl (by decide) rfl ?_
    refine hz_aloadn (pc := 29) 2 (hz_dec kX11_tellTips 17 rfl) rfl ?_
    refine hz_get (pc := 30) (hz_dec kX11_tellTips 18 rfl) fo_X11_68 hH (by omega) (by omega) rfl ?_
    refine hz_iloadn (pc := 33) 1 (hz_dec kX11_tellTips 19 rfl) rfl ?_
    refine hz_aald (pc := 34) (j := i) (r := 63 + 34 * i) (hz_dec kX11_tellTips 20 rfl) h55 (by omega) (by omega) rfl (by omega) (by omega) (hfN i h1) ?_
    refine hz_get (pc := 35) (hz_dec kX11_tellTips 21 rfl) fo_X11_166 n1 (by omega) (by omega) rfl ?_
    refine hz_if_eq (pc := 38) (tgt := 65) (hz_dec kX11_tellTips 22 rfl) (by decide) (fun h2 => ?_) (fun h2 => ?_)
    · skip
      have hu0 := hz_b0 h2
      refine hz_incN (pc := 65) (i := 1) (lo2 := [(1, .int (nI (i + 1))), (2, .ref (63 + 34 * i + 21)), (0, .ref 8)]) 1 (hz_dec kX11_tellTips 37 rfl) rfl (by decide) rfl ?_
      refine hz_goto (pc := 68) (tgt := 10) (hz_dec kX11_tellTips 38 rfl) (by decide) ?_
      refine hz_pick (pc := 10) [0, 2] rfl ?_
      refine ih ((hoN H).length - (i + 1)) (by omega) (i + 1) M2 rfl (by omega) hf ?_
      unfold ttQ
      rw [show (ndL (hoN H) i).2.1 = false from hu0, hs]
      exact hR
    · skip
      have hu1 := hz_b1 h2
      have h32 := haS_len (bBy (ksB (ndL (hoN H) i).1) (ksT (ndL (hoN H) i).1))
      have hA : isA fh (32 * ksT (ndL (hoN H) i).1) (haS (bBy (ksB (ndL (hoN H) i).1) (ksT (ndL (hoN H) i).1))) := hfhX _ w6
      refine hz_aloadn (pc := 41) 2 (hz_dec kX11_tellTips 23 rfl) rfl ?_
      refine hz_aloadn (pc := 42) 2 (hz_dec kX11_tellTips 24 rfl) rfl ?_
      refine hz_get (pc := 43) (hz_dec kX11_tellTips 25 rfl) fo_X11_68 hH (by omega) (by omega) rfl ?_
      refine hz_iloadn (pc := 46) 1 (hz_dec kX11_tellTips 26 rfl) rfl ?_
      refine hz_aald (pc := 47) (j := i) (r := 63 + 34 * i) (hz_dec kX11_tellTips 27 rfl) h55 (by omega) (by omega) rfl (by omega) (by omega) (hfN i h1) ?_
      refine hz_aloadn (pc := 48) 0 (hz_dec kX11_tellTips 28 rfl) rfl ?_
      refine hz_get (pc := 49) (hz_dec kX11_tellTips 29 rfl) fo_X11_244 hTO (by omega) (by omega) rfl ?_
      refine hz_bipush (pc := 52) (v := nI 32) (hz_dec kX11_tellTips 30 rfl) (by decide) ?_
      refine hz_aloadn (pc := 54) 0 (hz_dec kX11_tellTips 31 rfl) rfl ?_
      refine hz_get (pc := 55) (hz_dec kX11_tellTips 32 rfl) fo_X11_235 hTO (by omega) (by omega) rfl ?_
      refine hz_mulN (pc := 58) (hz_dec kX11_tellTips 33 rfl) ?_
      refine hz_bipush (pc := 59) (v := nI 32) (hz_dec kX11_tellTips 34 rfl) (by decide) ?_
      refine hz_iconst (pc := 61) (v := nI 1) (hz_dec kX11_tellTips 35 rfl) (by decide) ?_
      have qt := c_tell (κ := κ) (b := 63 + 34 * i + 21 + 4) hz63 hH hnn hNs n1 (by omega) (by omega) h1 hfh (by omega) (by omega) (by omega) (by decide) hA (by have r : ksT (ndL (hoN H) i).1 < (ksB (ndL (hoN H) i).1).length := w6; have r1 : (ksB (ndL (hoN H) i).1).length ≤ 113 := w1; rw [h32]; omega) (by rw [h32]; decide) (kd := nI 1) hml
      rw [h32] at qt
      refine hz_callV (pc := 62) (a := 8) (As := [.ref (63 + 34 * i), .ref (63 + 34 * i + 21 + 4), .int (nI (32 * (ksT (ndL (hoN H) i).1))), .int (nI 32), .int (nI 1)]) (st := []) (hz_dec kX11_tellTips 36 rfl) co_X11_477 im_X11_tell se_X11_tell rfl hH (by omega) (by omega) (qt) rfl (by decide) ⟨Nat.le_refl _, Nat.le_refl _⟩ (Nat.le_of_ble_eq_true rfl) rfl (fun r9 z9 M3 hp9 => ?_)
      obtain ⟨rfl, rfl, hf3, hml3⟩ := hp9
      have hR3 : hcR M3 z (hoq H (tlQ (hoD H) (hoW H) i (-1) (nI 1) (haS (bBy (ksB (ndL (hoN H) i).1) (ksT (ndL (hoN H) i).1))) (hoN H).length s)) ll (-1) kn := hcR.q (H := hoq H s) hR (hf3.mono (fun q (h9 : outS [(45, 54)] q) => ⟨by have r := h9.1; omega, trivial⟩)) hml3.1 hml3.2.1 ⟨g53, (hf3.at1 (by omega)).trans h53⟩
      refine hz_incN (pc := 65) (i := 1) (lo2 := [(1, .int (nI (i + 1))), (2, .ref (63 + 34 * i + 21)), (0, .ref 8)]) 1 (hz_dec kX11_tellTips 37 rfl) rfl (by decide) rfl ?_
      refine hz_goto (pc := 68) (tgt := 10) (hz_dec kX11_tellTips 38 rfl) (by decide) ?_
      refine hz_pick (pc := 10) [0, 2] rfl ?_
      refine ih ((hoN H).length - (i + 1)) (by omega) (i + 1) M3 rfl (by omega) (hf.tr hf3) ?_
      unfold ttQ
      rw [show (ndL (hoN H) i).2.1 = true from hu1, hs, if_pos rfl]
      exact hR3
set_option maxHeartbeats 4000000 in
set_option maxRecDepth 100000 in
theorem c_tTips {κ : hz_C} {z : Nat} {M : hz_M} {H : ho_H} (hz : 63 + 34 * (hoN H).length ≤ z) (hnn : (hoN H).length ≤ 6) {s0 : mq_S} {ll : Nat} {kn : Int32} {fr : Int32} (hR : hcR M z (hoq H s0) ll fr kn) : hz_Mt κ xX11_tellTips 4 0 0 [.ref 8] z M (fun r z2 M3 => none = r ∧ z = z2 ∧ frS [(45, 53)] M M3 ∧ hcR M3 z (hoq H (ttQ (hoN H) (hoD H) (hoW H) (hoN H).length s0)) ll (-1) kn) := by
  refine hz_ent (lo := [(0, .ref 8)]) (by decide) (Nat.le_of_ble_eq_true rfl) rfl ?_
  obtain ⟨hH, hNs, hNd, hJ, hml, ⟨g53, h53⟩, hrest⟩ := id hR
  replace hNs : nsR M (hoN H).length := hNs
  replace hNd : ∀ v, v < (hoN H).length → ndR M (63 + 34 * v) v (ndL (hoN H) v) := hNd
  replace hml : mlR M (hoN H).length (hoW H) s0 (hoD H) ll fr kn := hml
  replace hH : M 8 = hoO (hoT H).length (hoE H) := hH
  obtain ⟨hO, hQ, hD⟩ := id hml
  refine hz_aloadn (pc := 0) 0 (hz_dec kX11_tellTips 0 rfl) rfl ?_
  refine hz_get (pc := 1) (hz_dec kX11_tellTips 1 rfl) fo_X11_62 hH (by omega) (by omega) rfl ?_
  refine hz_iconst (pc := 4) (v := (-1)) (hz_dec kX11_tellTips 2 rfl) (by decide) ?_
  refine hz_puti (pc := 5) (hz_dec kX11_tellTips 3 rfl) fo_X11_299 ft_X5_11 hO (by omega) (by omega) (Nat.le_of_ble_eq_true rfl) ?_
  refine hz_mem (pc := 8) (M2 := (va_up M 45 (.inr (5, [.ref 46, .ref 49, .ref 50, .ref 51, .ref 52, .int (nI ((hoN H).length)), .ref 54, .int (hoW H), .int s0.2, .ref 53, .int (nI ll), .int (-1), .int kn])))) rfl ?_
  refine hz_iconst (pc := 8) (v := nI 0) (hz_dec kX11_tellTips 4 rfl) (by decide) ?_
  refine hz_istoren (pc := 9) (i := 1) (lo2 := [(1, .int (nI 0)), (0, .ref 8)]) (hz_dec kX11_tellTips 5 rfl) rfl (by decide) rfl ?_
  refine hz_pick (pc := 10) [0, 1] rfl ?_
  have hf1 : frS [(45, 53)] M (va_up M 45 (.inr (5, [.ref 46, .ref 49, .ref 50, .ref 51, .ref 52, .int (nI ((hoN H).length)), .ref 54, .int (hoW H), .int s0.2, .ref 53, .int (nI ll), .int (-1), .int kn]))) := fun q hq => va_up_ne _ _ (fun e => by have r := hq.1; omega)
  exact c_tt_l hz hnn (hoN H).length 0 _ rfl (Nat.zero_le _) hf1 (hcR.q (H := hoq H s0) hR (hf1.mono (fun q (h9 : outS [(45, 54)] q) => ⟨by have r := h9.1; omega, trivial⟩)) (va_up_self _ _ _) (hQ.fr (fun q q1 q2 => va_up_ne _ _ (by omega))) ⟨g53, (va_up_ne _ _ (by decide)).trans h53⟩)
