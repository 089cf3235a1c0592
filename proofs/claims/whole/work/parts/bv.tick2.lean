/-! tick: the class, whole -/
theorem tkE_n {H : ho_H} (h : ¬ hoW H - hoW H / (nI 8) * (nI 8) = 0) : tkE H = H := if_neg h
theorem tkE_y {H : ho_H} (h : hoW H - hoW H / (nI 8) * (nI 8) = 0) : tkE H = hoq H (ttQ (hoN H) (hoD H) (hoW H) (hoN H).length (hoQ H)) := if_pos h
theorem hcR.w {M M2 : hz_M} {z : Nat} {H : ho_H} {ll : Nat} {fr kn : Int32} (h : hcR M z H ll fr kn) (f : frS [(45, 46)] M M2) (h45 : M2 45 = mlO (hoN H).length (hoW H + 1) (hoQ H).2 ll fr kn) : hcR M2 z (how H) ll fr kn := by
  obtain ⟨h1, ⟨fN, n1, n2⟩, h3, h4, ⟨-, hQ, fd, d1, d2⟩, ⟨g6, h6⟩, ⟨L, h7⟩, ⟨g8, h8⟩, ⟨g9, h9⟩, ⟨g56, h56, hT56⟩, hdf⟩ := h
  exact ⟨(f.at1 (by omega)).trans h1, ⟨fN, (f.at1 (by omega)).trans n1, n2⟩, fun v hv => (h3 v hv).fr (fun q q1 q2 => f.at1 (by omega)), h4.al (fun q q1 q2 => f.at1 (by omega)), ⟨h45, hQ.fr (fun q q1 q2 => f.at1 (by omega)), fd, (f.at1 (by omega)).trans d1, d2⟩, ⟨g6, (f.at1 (by omega)).trans h6⟩, ⟨L, h7.fr (fun q q1 q2 => f.at1 (by omega))⟩, ⟨g8, (f.at1 (by omega)).trans h8⟩, ⟨g9, (f.at1 (by omega)).trans h9⟩, ⟨g56, (f.at1 (by omega)).trans h56, hT56⟩, hdf.fr (fun q q1 q2 => f.at1 (by omega))⟩
set_option maxHeartbeats 4000000 in
set_option maxRecDepth 100000 in
theorem c_tk_o {κ : hz_C} {z nn : Nat} {M : hz_M} (hz : 63 + 34 * nn ≤ z) (hnn : nn ≤ 6) {nt : Nat} (hnt : nt ≤ 64) {R : ho_H × Nat} : ∀ k t H c M2 ll fr kn, k = nt - t → t ≤ nt → frS [(8, 63 + 34 * nn)] M M2 → hcR M2 z H ll fr kn → hoX H → (hoN H).length = nn → R = tkN k H c → hz_W κ xX11_tick 17 0 0 (fun r z2 M3 => some (.int (nI R.2)) = r ∧ z = z2 ∧ frS [(8, 63 + 34 * nn)] M M3 ∧ ∃ (ll : Nat) (fr kn : Int32), hcR M3 z R.1 ll fr kn) 0 0 17 [(3, .int (nI t)), (2, .int (nI c)), (0, .ref 8), (1, .int (nI nt))] [] z M2 := by
  intro k
  induction k with
  | zero =>
    intro t H c M2 ll fr kn hk hi hf hR hX hl hE
    refine hz_iloadn (pc := 17) 0 (hz_dec kX11_tick 12 rfl) rfl ?_
    refine hz_iloadn (pc := 18) 3 (hz_dec kX11_tick 13 rfl) rfl ?_
    refine hz_n_ge (pc := 19) (tgt := 169) (hz_dec kX11_tick 14 rfl) (by decide) (by omega) (by omega) (fun h1 => ?_) (fun h1 => ?_)
    · skip
      have e2 : R = (H, c) := hE
      refine hz_iloadn (pc := 169) 1 (hz_dec kX11_tick 83 rfl) rfl ?_
      exact hz_iret (pc := 170) (hz_dec kX11_tick 84 rfl) rfl ⟨by rw [e2], rfl, hf, ll, fr, kn, by rw [e2]; exact hR⟩
    · skip
      exact absurd h1 (by omega)
  | succ k ih =>
    intro t H c M2 ll fr kn hk hi hf hR hX hl hE
    have hH := hR.1
    have h45 := hR.2.2.2.2.1.1
    refine hz_iloadn (pc := 17) 0 (hz_dec kX11_tick 12 rfl) rfl ?_
    refine hz_iloadn (pc := 18) 3 (hz_dec kX11_tick 13 rfl) rfl ?_
    refine hz_n_ge (pc := 19) (tgt := 169) (hz_dec kX11_tick 14 rfl) (by decide) (by omega) (by omega) (fun h1 => ?_) (fun h1 => ?_)
    · skip
      exact absurd h1 (by omega)
    · skip
      refine hz_aloadn (pc := 22) 2 (hz_dec kX11_tick 15 rfl) rfl ?_
      refine hz_get (pc := 23) (hz_dec kX11_tick 16 rfl) fo_X11_62 hH (by omega) (by omega) rfl ?_
      refine hz_dup (pc := 26) (hz_dec kX11_tick 17 rfl) rfl ?_
      refine hz_get (pc := 27) (hz_dec kX11_tick 18 rfl) fo_X11_320 h45 (by omega) (by omega) rfl ?_
      refine hz_iconst (pc := 30) (v := nI 1) (hz_dec kX11_tick 19 rfl) (by decide) ?_
      refine hz_iadd (pc := 31) (hz_dec kX11_tick 20 rfl) ?_
      refine hz_puti (pc := 32) (hz_dec kX11_tick 21 rfl) fo_X11_320 ft_X5_7 h45 (by omega) (by omega) (Nat.le_of_ble_eq_true rfl) ?_
      refine hz_mem (pc := 35) (M2 := (va_up M2 45 (.inr (5, [.ref 46, .ref 49, .ref 50, .ref 51, .ref 52, .int (nI ((hoN H).length)), .ref 54, .int ((hoW H) + (nI (1))), .int ((hoQ H).2), .ref 53, .int (nI ll), .int fr, .int kn])))) rfl ?_
      have hf1 : frS [(45, 46)] M2 (va_up M2 45 (.inr (5, [.ref 46, .ref 49, .ref 50, .ref 51, .ref 52, .int (nI ((hoN H).length)), .ref 54, .int ((hoW H) + (nI (1))), .int ((hoQ H).2), .ref 53, .int (nI ll), .int fr, .int kn]))) := fun q hq => va_up_ne _ _ (fun e => by have r := hq.1; omega)
      have hR1 : hcR (va_up M2 45 (.inr (5, [.ref 46, .ref 49, .ref 50, .ref 51, .ref 52, .int (nI ((hoN H).length)), .ref 54, .int ((hoW H) + (nI (1))), .int ((hoQ H).2), .ref 53, .int (nI ll), .int fr, .int kn]))) z (how H) ll fr kn := hR.w hf1 (va_up_self _ _ _)
      generalize (va_up M2 45 (.inr (5, [.ref 46, .ref 49, .ref 50, .ref 51, .ref 52, .int (nI ((hoN H).length)), .ref 54, .int ((hoW H) + (nI (1))), .int ((hoQ H).2), .ref 53, .int (nI ll), .int fr, .int kn]))) = M3 at *
      have hf13 : frS [(8, 63 + 34 * nn)] M M3 := hf.tr (hf1.mono (fun q (h9 : outS [(8, 63 + 34 * nn)] q) => ⟨by have r := h9.1; omega, trivial⟩))
      refine hz_iconst (pc := 35) (v := nI 0) (hz_dec kX11_tick 22 rfl) (by decide) ?_
      refine hz_istore (pc := 36) (i := 4) (lo2 := [(4, .int (nI 0)), (3, .int (nI t)), (2, .int (nI c)), (0, .ref 8), (1, .int (nI nt))]) (hz_dec kX11_tick 23 rfl) (by decide) rfl ?_
      refine hz_pick (pc := 38) [0, 2, 1, 3, 4] rfl ?_
      have hX1 : hoX (how H) := hX
      have hT := tk1_X 200 (how H) c hX1 (show (hoN H).length ≤ 6 by omega)
      refine c_tk_i hz hnn (R := tk1 200 (how H) c) (M := M) (fun M4 ll4 fr4 kn4 hf4 hR4 => ?_) 200 0 (how H) c M3 ll fr kn rfl (by omega) hf13 hR1 hX1 hl rfl
      have eN : R = tkN k (tkE (tk1 200 (how H) c).1) (tk1 200 (how H) c).2 := hE
      generalize tk1 200 (how H) c = T at *
      have hl4 : (hoN T.1).length = nn := hT.2.trans hl
      have hE4 := tkE_X hT.1 (by omega)
      have hH4 := hR4.1
      have h454 := hR4.2.2.2.2.1.1
      refine hz_aloadn (pc := 146) 2 (hz_dec kX11_tick 73 rfl) rfl ?_
      refine hz_get (pc := 147) (hz_dec kX11_tick 74 rfl) fo_X11_62 hH4 (by omega) (by omega) rfl ?_
      refine hz_get (pc := 150) (hz_dec kX11_tick 75 rfl) fo_X11_320 h454 (by omega) (by omega) rfl ?_
      refine hz_bipush (pc := 153) (v := nI 8) (hz_dec kX11_tick 76 rfl) (by decide) ?_
      refine hz_irem (pc := 155) (hz_dec kX11_tick 77 rfl) (by decide) ?_
      refine hz_if_ne (pc := 156) (tgt := 163) (hz_dec kX11_tick 78 rfl) (by decide) (fun h3 => ?_) (fun h3 => ?_)
      · skip
        have hR5 : hcR M4 z (tkE T.1) ll4 fr4 kn4 := by rw [tkE_n h3]; exact hR4
        refine hz_incN (pc := 163) (i := 3) (lo2 := [(3, .int (nI (t + 1))), (2, .int (nI (T.2))), (0, .ref 8), (1, .int (nI nt))]) 1 (hz_dec kX11_tick 81 rfl) rfl (by decide) rfl ?_
        refine hz_goto (pc := 166) (tgt := 17) (hz_dec kX11_tick 82 rfl) (by decide) ?_
        refine hz_pick (pc := 17) [0, 1, 2, 3] rfl ?_
        exact ih (t + 1) _ _ M4 _ _ _ (by omega) (by omega) hf4 hR5 hE4.1 (hE4.2.trans hl4) eN
      · skip
        refine hz_aloadn (pc := 159) 2 (hz_dec kX11_tick 79 rfl) rfl ?_
        refine hz_callV (pc := 160) (a := 8) (As := []) (st := []) (hz_dec kX11_tick 80 rfl) co_X11_339 im_X11_tellTips se_X11_tellTips rfl hH4 (by omega) (by omega) (c_tTips (H := T.1) (s0 := hoQ T.1) (by omega) (by omega) hR4) rfl (by decide) ⟨Nat.le_refl _, Nat.le_refl _⟩ (Nat.le_of_ble_eq_true rfl) rfl (fun r9 z9 M5 hp9 => ?_)
        obtain ⟨rfl, rfl, hf5, hR5⟩ := hp9
        have hR6 : hcR M5 z (tkE T.1) ll4 (-1) kn4 := by rw [tkE_y (by first | exact h3 | exact Classical.byContradiction h3)]; exact hR5
        have hf15 : frS [(8, 63 + 34 * nn)] M M5 := hf4.tr (hf5.mono (fun q (h9 : outS [(8, 63 + 34 * nn)] q) => ⟨by have r := h9.1; omega, trivial⟩))
        refine hz_incN (pc := 163) (i := 3) (lo2 := [(3, .int (nI (t + 1))), (2, .int (nI (T.2))), (0, .ref 8), (1, .int (nI nt))]) 1 (hz_dec kX11_tick 81 rfl) rfl (by decide) rfl ?_
        refine hz_goto (pc := 166) (tgt := 17) (hz_dec kX11_tick 82 rfl) (by decide) ?_
        refine hz_pick (pc := 17) [0, 1, 2, 3] rfl ?_
        exact ih (t + 1) _ _ M5 _ _ _ (by omega) (by omega) hf15 hR6 hE4.1 (hE4.2.trans hl4) eN
set_option maxHeartbeats 4000000 in
set_option maxRecDepth 100000 in
theorem c_tick {κ : hz_C} {z : Nat} {M : hz_M} {H : ho_H} (hz : 63 + 34 * (hoN H).length ≤ z) (hnn : (hoN H).length ≤ 6) {ll : Nat} {fr kn : Int32} (hR : hcR M z H ll fr kn) (hX : hoX H) {nt : Nat} (h1 : 1 ≤ nt) (h64 : nt ≤ 64) : hz_Mt κ xX11_tick 17 0 0 [.ref 8, .int (nI nt)] z M (fun r z2 M3 => some (.int (nI (tkN nt H 0).2)) = r ∧ z = z2 ∧ frS [(8, 63 + 34 * (hoN H).length)] M M3 ∧ ∃ (ll : Nat) (fr kn : Int32), hcR M3 z (tkN nt H 0).1 ll fr kn) := by
  refine hz_ent (lo := [(0, .ref 8), (1, .int (nI nt))]) (by decide) (Nat.le_of_ble_eq_true rfl) rfl ?_
  refine hz_iloadn (pc := 0) 1 (hz_dec kX11_tick 0 rfl) rfl ?_
  refine hz_iconst (pc := 1) (v := nI 1) (hz_dec kX11_tick 1 rfl) (by decide) ?_
  refine hz_n_lt (pc := 2) (tgt := 11) (hz_dec kX11_tick 2 rfl) (by decide) (by omega) (by omega) (fun h2 => ?_) (fun h2 => ?_)
  · skip
    exact absurd h2 (by omega)
  · skip
    refine hz_iloadn (pc := 5) 1 (hz_dec kX11_tick 3 rfl) rfl ?_
    refine hz_bipush (pc := 6) (v := nI 64) (hz_dec kX11_tick 4 rfl) (by decide) ?_
    refine hz_n_le (pc := 8) (tgt := 13) (hz_dec kX11_tick 5 rfl) (by decide) (by omega) (by omega) (fun h3 => ?_) (fun h3 => ?_)
    · skip
      refine hz_iconst (pc := 13) (v := nI 0) (hz_dec kX11_tick 8 rfl) (by decide) ?_
      refine hz_istoren (pc := 14) (i := 2) (lo2 := [(2, .int (nI 0)), (0, .ref 8), (1, .int (nI nt))]) (hz_dec kX11_tick 9 rfl) rfl (by decide) rfl ?_
      refine hz_iconst (pc := 15) (v := nI 0) (hz_dec kX11_tick 10 rfl) (by decide) ?_
      refine hz_istoren (pc := 16) (i := 3) (lo2 := [(3, .int (nI 0)), (2, .int (nI 0)), (0, .ref 8), (1, .int (nI nt))]) (hz_dec kX11_tick 11 rfl) rfl (by decide) rfl ?_
      refine hz_pick (pc := 17) [0, 1, 2, 3] rfl ?_
      exact c_tk_o hz hnn h64 nt 0 H 0 M ll fr kn rfl (by omega) frS.rf hR hX rfl rfl
    · skip
      exact absurd h3 (by omega)
set_option maxHeartbeats 4000000 in
set_option maxRecDepth 100000 in
theorem c_tickB {κ : hz_C} {z : Nat} {M : hz_M} {n : Int32} (hn : n < nI 1 ∨ ¬ n ≤ nI 64) : hz_Mt κ xX11_tick 17 0 0 [.ref 8, .int n] z M (hz_ex (some (.int (-1))) z M) := by
  refine hz_ent (lo := [(0, .ref 8), (1, .int n)]) (by decide) (Nat.le_of_ble_eq_true rfl) rfl ?_
  refine hz_iloadn (pc := 0) 1 (hz_dec kX11_tick 0 rfl) rfl ?_
  refine hz_iconst (pc := 1) (v := nI 1) (hz_dec kX11_tick 1 rfl) (by decide) ?_
  refine hz_icmp_lt (pc := 2) (tgt := 11) (hz_dec kX11_tick 2 rfl) (by decide) (fun h2 => ?_) (fun h2 => ?_)
  · skip
    refine hz_iconst (pc := 11) (v := (-1)) (hz_dec kX11_tick 6 rfl) (by decide) ?_
    exact hz_iret (pc := 12) (hz_dec kX11_tick 7 rfl) rfl ⟨rfl, rfl, rfl⟩
  · skip
    refine hz_iloadn (pc := 5) 1 (hz_dec kX11_tick 3 rfl) rfl ?_
    refine hz_bipush (pc := 6) (v := nI 64) (hz_dec kX11_tick 4 rfl) (by decide) ?_
    refine hz_icmp_le (pc := 8) (tgt := 13) (hz_dec kX11_tick 5 rfl) (by decide) (fun h3 => ?_) (fun h3 => ?_)
    · skip
      exact absurd h3 (hn.resolve_left h2)
    · skip
      refine hz_iconst (pc := 11) (v := (-1)) (hz_dec kX11_tick 6 rfl) (by decide) ?_
      exact hz_iret (pc := 12) (hz_dec kX11_tick 7 rfl) rfl ⟨rfl, rfl, rfl⟩
