/-! a message arrives: the class -/
def sdI (m : ms_M) : Nat := m.1.toInt.toNat
def kdI (m : ms_M) : Nat := m.2.2.1.toInt.toNat
theorem sdI_n {m : ms_M} {b : Nat} (h : m.1 = nI b) (hb : b < 1000) : sdI m = b := by
  unfold sdI
  rw [h, nI_toInt (show b < 2 ^ 31 by omega)]
  rfl
theorem kdI_n {m : ms_M} {b : Nat} (h : m.2.2.1 = nI b) (hb : b < 1000) : kdI m = b := by
  unfold kdI
  rw [h, nI_toInt (show b < 2 ^ 31 by omega)]
  rfl
/-- what a message does that comes to a node that is up -/
def arV (H : ho_H) (m : ms_M) : ks_S × Bool × Bool := rvS (hoN H).length (hoD H) (hoW H) (rcvI m) m.1 (hoD H (6 * rcvI m + sdI m)) (ksq (ndL (hoN H) (rcvI m)).1 (hoQ H)) (kdI m) m.2.2.2.2
def arN (H : ho_H) (m : ms_M) : nd_N := ((arV H m).1, (arV H m).2.1, (ndL (hoN H) (rcvI m)).2.2.1 + 1, if (arV H m).2.2 = true then (ndL (hoN H) (rcvI m)).2.2.2 + 1 else (ndL (hoN H) (rcvI m)).2.2.2)
def arS (H : ho_H) (m : ms_M) : ho_H := hoS H (rcvI m) (arN H m) (ksQ (arV H m).1)
theorem nIeq1 {k : Nat} (h : k < 100) : nI k = 1 ↔ k = 1 := by
  refine ⟨fun q => ?_, fun q => by rw [q]; rfl⟩
  have t := nI_toInt (show k < 2 ^ 31 by omega)
  rw [q, show (1 : Int32).toInt = 1 by decide] at t
  omega
theorem hz_b_1 {b : Bool} : b = true ↔ hz_b b = 1 := by
  cases b
  · exact ⟨(fun q => nomatch q), fun q => absurd (show (0 : Int32) = 1 from q) (by decide)⟩
  · exact ⟨fun _ => rfl, fun _ => rfl⟩
theorem kcR.nd {M : hz_M} {z nb nn v tl : Nat} {tr now fr kn rc rf up : Int32} {dl : Nat → Nat} {ll : Nat} {S : ks_S} (h : kcR M z nb nn v tl tr now fr kn rc rf up dl ll S) (hnb : 63 ≤ nb) (rc2 rf2 : Int32) : kcR (va_up M nb (ndO nb (nI v) up (nI (ksN S)) (pvI (ksF S)) rc2 rf2)) z nb nn v tl tr now fr kn rc2 rf2 up dl ll S := by
  have e : ∀ q, ¬ q = nb → va_up M nb (ndO nb (nI v) up (nI (ksN S)) (pvI (ksF S)) rc2 rf2) q = M q := fun q hq => va_up_ne _ _ hq
  generalize hM : va_up M nb (ndO nb (nI v) up (nI (ksN S)) (pvI (ksF S)) rc2 rf2) = M2 at *
  obtain ⟨hH, hNs, hN, ⟨gD, hD, hDX⟩, hT, hc, hp, hL, hJ, hml, ⟨g53, h53⟩, ⟨L58, h58⟩, g61, h61⟩ := h
  exact ⟨(e 8 (by omega)).trans hH, (by obtain ⟨f9, q1, q2⟩ := hNs; exact ⟨f9, (e 55 (by omega)).trans q1, q2⟩), by rw [← hM]; exact va_up_self _ _ _, ⟨gD, (e _ (by omega)).trans hD, hDX⟩, hT.fr (fun q q1 q2 => e q (by omega)), hc.fr (fun q q1 q2 => e q (by omega)), hp.fr (fun q q1 q2 => e q (by omega)), hL.fr (fun q q1 q2 => e q (by omega)), hJ.al (fun q q1 q2 => e q (by omega)), hml.fr (fun q q1 q2 q3 => e q (by omega)), ⟨_, (e 53 (by omega)).trans h53⟩, ⟨_, h58.fr (fun q q1 q2 => e q (by omega))⟩, _, (e 61 (by omega)).trans h61⟩
set_option maxHeartbeats 4000000 in
set_option maxRecDepth 100000 in
theorem c_arr1 {κ : hz_C} {z : Nat} {M : hz_M} {H : ho_H} (hz : 63 + 34 * (hoN H).length ≤ z) (hnn : (hoN H).length ≤ 6) {m : ms_M} (hR : hcR M z H m.2.2.2.2.length m.1 (nI 1)) {g : Nat → Int32} (hg : M 53 = .inl (1, 4000, .inl g)) (hA : isA g 0 m.2.2.2.2) {a b : Nat} (ha : m.1 = nI a) (han : a < (hoN H).length) (hrb : rcvI m = b) (hb : b < (hoN H).length) (hkd : kdI m = 1) (hl4 : m.2.2.2.2.length ≤ 4000) (hup : (ndL (hoN H) b).2.1 = true) (hI : ksI (ndL (hoN H) b).1) {cc kk tt nt : Nat} {P : hz_P} (K : ∀ M2 ll2 fr2 kn2, frS [(9, 39), (45, 54), (57, 62), (63 + 34 * b, 63 + 34 * b + 34)] M M2 → hcR M2 z (arS H m) ll2 fr2 kn2 → hz_W κ xX11_tick 17 0 0 P 0 0 140 [(2, .int (nI (cc + 1))), (4, .int (nI kk)), (3, .int (nI tt)), (0, .ref 8), (1, .int (nI nt))] [] z M2) : hz_W κ xX11_tick 17 0 0 P 0 0 60 [(5, .ref (63 + 34 * b)), (2, .int (nI cc)), (4, .int (nI kk)), (3, .int (nI tt)), (0, .ref 8), (1, .int (nI nt))] [] z M := by
  have hk0 := hR.kc hb
  have hsd : sdI m = a := sdI_n ha (by omega)
  obtain ⟨g57, h57⟩ := hR.2.2.2.2.2.2.2.2.1
  have hk1 : kcR M z (63 + 34 * b) (hoN H).length b (hoT H).length (hoE H) (hoW H) m.1 (nI 1) (ndL (hoN H) b).2.2.1 (ndL (hoN H) b).2.2.2 (nI 1) (hoD H) m.2.2.2.2.length (ksq (ndL (hoN H) b).1 (hoQ H)) := by rw [hup] at hk0; exact hk0
  have hN := hk1.2.2.1
  have hH := hk1.1
  have hml := hk1.2.2.2.2.2.2.2.2.2.1
  have hto : (∃ c, c < (hoN H).length ∧ m.1 = nI c ∧ hoD H (6 * b + a) = hoD H (6 * b + c)) ∨ (m.1 < 0 ∧ hoD H (6 * b + a) = 0) := Or.inl ⟨a, han, ha, rfl⟩
  have hIq : ksI (ksq (ndL (hoN H) b).1 (hoQ H)) := ksq_I hI
  have eV : arV H m = rvS (hoN H).length (hoD H) (hoW H) b m.1 (hoD H (6 * b + a)) (ksq (ndL (hoN H) b).1 (hoQ H)) 1 m.2.2.2.2 := by unfold arV; rw [hrb, hsd, hkd]
  refine hz_incN (pc := 60) (i := 2) (lo2 := [(2, .int (nI (cc + 1))), (5, .ref (63 + 34 * b)), (4, .int (nI kk)), (3, .int (nI tt)), (0, .ref 8), (1, .int (nI nt))]) 1 (hz_dec kX11_tick 33 rfl) rfl (by decide) rfl ?_
  refine hz_aload (pc := 63) 1 (hz_dec kX11_tick 34 rfl) rfl ?_
  refine hz_dup (pc := 65) (hz_dec kX11_tick 35 rfl) rfl ?_
  refine hz_get (pc := 66) (hz_dec kX11_tick 36 rfl) fo_X11_327 hN (by omega) (by omega) rfl ?_
  refine hz_iconst (pc := 69) (v := nI 1) (hz_dec kX11_tick 37 rfl) (by decide) ?_
  refine hz_iadd (pc := 70) (hz_dec kX11_tick 38 rfl) ?_
  refine hz_puti (pc := 71) (hz_dec kX11_tick 39 rfl) fo_X11_327 ft_X6_12 hN (by omega) (by omega) (Nat.le_of_ble_eq_true rfl) ?_
  refine hz_mem (pc := 74) (M2 := (va_up M (63 + 34 * b) (.inr (6, [.int (nI b), .int (nI 1), .ref (63 + 34 * b + 1), .int (nI (ksN (ksq (ndL (hoN H) b).1 (hoQ H)))), .int (pvI (ksF (ksq (ndL (hoN H) b).1 (hoQ H)))), .ref (63 + 34 * b + 21), .ref (63 + 34 * b + 2), .ref (63 + 34 * b + 10), .ref (63 + 34 * b + 13), .ref (63 + 34 * b + 14), .ref (63 + 34 * b + 15), .ref (63 + 34 * b + 18), .int (((ndL (hoN H) b).2.2.1) + (nI (1))), .int ((ndL (hoN H) b).2.2.2)])))) rfl ?_
  have hk2 : kcR (va_up M (63 + 34 * b) (.inr (6, [.int (nI b), .int (nI 1), .ref (63 + 34 * b + 1), .int (nI (ksN (ksq (ndL (hoN H) b).1 (hoQ H)))), .int (pvI (ksF (ksq (ndL (hoN H) b).1 (hoQ H)))), .ref (63 + 34 * b + 21), .ref (63 + 34 * b + 2), .ref (63 + 34 * b + 10), .ref (63 + 34 * b + 13), .ref (63 + 34 * b + 14), .ref (63 + 34 * b + 15), .ref (63 + 34 * b + 18), .int (((ndL (hoN H) b).2.2.1) + (nI (1))), .int ((ndL (hoN H) b).2.2.2)]))) z (63 + 34 * b) (hoN H).length b (hoT H).length (hoE H) (hoW H) m.1 (nI 1) ((ndL (hoN H) b).2.2.1 + 1) (ndL (hoN H) b).2.2.2 (nI 1) (hoD H) m.2.2.2.2.length (ksq (ndL (hoN H) b).1 (hoQ H)) := hk1.nd (by omega) ((ndL (hoN H) b).2.2.1 + 1) (ndL (hoN H) b).2.2.2
  have hf1 : frS [(9, 39), (45, 54), (57, 62), (63 + 34 * b, 63 + 34 * b + 34)] M (va_up M (63 + 34 * b) (.inr (6, [.int (nI b), .int (nI 1), .ref (63 + 34 * b + 1), .int (nI (ksN (ksq (ndL (hoN H) b).1 (hoQ H)))), .int (pvI (ksF (ksq (ndL (hoN H) b).1 (hoQ H)))), .ref (63 + 34 * b + 21), .ref (63 + 34 * b + 2), .ref (63 + 34 * b + 10), .ref (63 + 34 * b + 13), .ref (63 + 34 * b + 14), .ref (63 + 34 * b + 15), .ref (63 + 34 * b + 18), .int (((ndL (hoN H) b).2.2.1) + (nI (1))), .int ((ndL (hoN H) b).2.2.2)]))) := fun q hq => va_up_ne _ _ (fun e => by have r := hq.2.2.2.1; omega)
  have hg1 : (va_up M (63 + 34 * b) (.inr (6, [.int (nI b), .int (nI 1), .ref (63 + 34 * b + 1), .int (nI (ksN (ksq (ndL (hoN H) b).1 (hoQ H)))), .int (pvI (ksF (ksq (ndL (hoN H) b).1 (hoQ H)))), .ref (63 + 34 * b + 21), .ref (63 + 34 * b + 2), .ref (63 + 34 * b + 10), .ref (63 + 34 * b + 13), .ref (63 + 34 * b + 14), .ref (63 + 34 * b + 15), .ref (63 + 34 * b + 18), .int (((ndL (hoN H) b).2.2.1) + (nI (1))), .int ((ndL (hoN H) b).2.2.2)]))) 53 = .inl (1, 4000, .inl g) := (va_up_ne _ _ (by omega)).trans hg
  have h571 : (va_up M (63 + 34 * b) (.inr (6, [.int (nI b), .int (nI 1), .ref (63 + 34 * b + 1), .int (nI (ksN (ksq (ndL (hoN H) b).1 (hoQ H)))), .int (pvI (ksF (ksq (ndL (hoN H) b).1 (hoQ H)))), .ref (63 + 34 * b + 21), .ref (63 + 34 * b + 2), .ref (63 + 34 * b + 10), .ref (63 + 34 * b + 13), .ref (63 + 34 * b + 14), .ref (63 + 34 * b + 15), .ref (63 + 34 * b + 18), .int (((ndL (hoN H) b).2.2.1) + (nI (1))), .int ((ndL (hoN H) b).2.2.2)]))) 57 = .inl (1, 1280, .inl g57) := (va_up_ne _ _ (by omega)).trans h57
  generalize (va_up M (63 + 34 * b) (.inr (6, [.int (nI b), .int (nI 1), .ref (63 + 34 * b + 1), .int (nI (ksN (ksq (ndL (hoN H) b).1 (hoQ H)))), .int (pvI (ksF (ksq (ndL (hoN H) b).1 (hoQ H)))), .ref (63 + 34 * b + 21), .ref (63 + 34 * b + 2), .ref (63 + 34 * b + 10), .ref (63 + 34 * b + 13), .ref (63 + 34 * b + 14), .ref (63 + 34 * b + 15), .ref (63 + 34 * b + 18), .int (((ndL (hoN H) b).2.2.1) + (nI (1))), .int ((ndL (hoN H) b).2.2.2)]))) = M1 at *
  have hH1 := hk2.1
  have hml1 := hk2.2.2.2.2.2.2.2.2.2.1
  refine hz_aloadn (pc := 74) 4 (hz_dec kX11_tick 40 rfl) rfl ?_
  refine hz_get (pc := 75) (hz_dec kX11_tick 41 rfl) fo_X11_62 hH1 (by omega) (by omega) rfl ?_
  refine hz_get (pc := 78) (hz_dec kX11_tick 42 rfl) fo_X11_330 hml1.1 (by omega) (by omega) rfl ?_
  refine hz_iconst (pc := 81) (v := nI 5) (hz_dec kX11_tick 43 rfl) (by decide) ?_
  refine hz_n_ne (pc := 82) (tgt := 94) (hz_dec kX11_tick 44 rfl) (by decide) (by omega) (by omega) (fun h1 => ?_) (fun h1 => ?_)
  · skip
    refine hz_aloadn (pc := 94) 4 (hz_dec kX11_tick 49 rfl) rfl ?_
    refine hz_get (pc := 95) (hz_dec kX11_tick 50 rfl) fo_X11_62 hH1 (by omega) (by omega) rfl ?_
    refine hz_get (pc := 98) (hz_dec kX11_tick 51 rfl) fo_X11_330 hml1.1 (by omega) (by omega) rfl ?_
    refine hz_bipush (pc := 101) (v := nI 6) (hz_dec kX11_tick 52 rfl) (by decide) ?_
    refine hz_n_ne (pc := 103) (tgt := 115) (hz_dec kX11_tick 53 rfl) (by decide) (by omega) (by omega) (fun h2 => ?_) (fun h2 => ?_)
    · skip
      refine hz_aloadn (pc := 115) 4 (hz_dec kX11_tick 58 rfl) rfl ?_
      refine hz_aload (pc := 116) 1 (hz_dec kX11_tick 59 rfl) rfl ?_
      refine hz_callV (pc := 118) (a := 8) (As := [.ref (63 + 34 * b)]) (st := []) (hz_dec kX11_tick 60 rfl) co_X11_333 im_X11_hear se_X11_hear rfl hH1 (by omega) (by omega) (c_hear1 (by omega) (by omega) hnn hb hto hk2 hIq hl4 hg1 hA h571) rfl (by decide) ⟨Nat.le_refl _, Nat.le_refl _⟩ (Nat.le_of_ble_eq_true rfl) rfl (fun r9 z9 M2 hp9 => ?_)
      obtain ⟨rfl, rfl, hf2, hk3, h572⟩ := hp9
      have hf2x : frS [(9, 39), (45, 54), (57, 62), (63 + 34 * b, 63 + 34 * b + 34)] M1 M2 := hf2.mono (fun q (h9 : outS [(9, 39), (45, 54), (57, 62), (63 + 34 * b, 63 + 34 * b + 34)] q) => ⟨by have r := h9.1; omega, by have r := h9.1; omega, by have r := h9.1; omega, by have r := h9.2.1; omega, by have r := h9.2.2.1; omega, by have r := h9.2.2.2.1; omega, by have r := h9.2.2.2.1; omega, trivial⟩)
      have hf12 := hf1.tr hf2x
      have e1 : (arV H m).1 = ksq (ksq (ndL (hoN H) b).1 (hoQ H)) (hrQ (hoW H) b m.1 (hoD H (6 * b + a)) (ksq (ndL (hoN H) b).1 (hoQ H)) 1 m.2.2.2.2) := by rw [eV, rvS_h (by decide)]
      have e2 : (arV H m).2.1 = true := by rw [eV, rvS_h (by decide)]
      have e3 : (arV H m).2.2 = true ↔ hz_b (!rwO (rwU 1) m.2.2.2.2) = 1 := by rw [eV, rvS_h (by decide)]; exact hz_b_1
      obtain ⟨ll2, hk3⟩ : ∃ ll2, kcR M2 z (63 + 34 * b) (hoN H).length b (hoT H).length (hoE H) (hoW H) m.1 (nI 1) ((ndL (hoN H) b).2.2.1 + 1) (ndL (hoN H) b).2.2.2 (hz_b (arV H m).2.1) (hoD H) ll2 (arV H m).1 := ⟨m.2.2.2.2.length, by rw [e1, e2]; exact hk3⟩
      have hN2 := hk3.2.2.1
      refine hz_topi (pc := 121) (fun y1 ey1 => ?_)
      refine hz_istore (pc := 121) (i := 6) (lo2 := [(6, .int y1), (2, .int (nI (cc + 1))), (5, .ref (63 + 34 * b)), (4, .int (nI kk)), (3, .int (nI tt)), (0, .ref 8), (1, .int (nI nt))]) (hz_dec kX11_tick 61 rfl) (by decide) rfl ?_
      refine hz_iload (pc := 123) 0 (hz_dec kX11_tick 62 rfl) rfl ?_
      refine hz_iconst (pc := 125) (v := nI 1) (hz_dec kX11_tick 63 rfl) (by decide) ?_
      refine hz_icmp_ne (pc := 126) (tgt := 140) (hz_dec kX11_tick 64 rfl) (by decide) (fun hv => ?_) (fun hv => ?_)
      · skip
        have hv9 : ¬ hz_b (!rwO (rwU 1) m.2.2.2.2) = 1 := by first | exact hv | (rw [← ey1]; exact hv)
        have en : arN H m = ((arV H m).1, (arV H m).2.1, (ndL (hoN H) b).2.2.1 + 1, (ndL (hoN H) b).2.2.2) := by unfold arN; rw [hrb, if_neg (fun q => hv9 (e3.mp q))]
        refine hz_pick (pc := 140) [1, 3, 4, 5, 6] rfl ?_
        refine K M2 ll2 m.1 (nI 1) hf12 ?_
        unfold arS
        rw [hrb, en]
        exact hR.put hb hf12 (N := ((arV H m).1, (arV H m).2.1, (ndL (hoN H) b).2.2.1 + 1, (ndL (hoN H) b).2.2.2)) hk3 h572
      · skip
        have hv9 : hz_b (!rwO (rwU 1) m.2.2.2.2) = 1 := by first | exact hv | (rw [← ey1]; exact hv)
        have en : arN H m = ((arV H m).1, (arV H m).2.1, (ndL (hoN H) b).2.2.1 + 1, (ndL (hoN H) b).2.2.2 + 1) := by unfold arN; rw [hrb, if_pos (e3.mpr hv9)]
        refine hz_aload (pc := 129) 2 (hz_dec kX11_tick 65 rfl) rfl ?_
        refine hz_dup (pc := 131) (hz_dec kX11_tick 66 rfl) rfl ?_
        refine hz_get (pc := 132) (hz_dec kX11_tick 67 rfl) fo_X11_336 hN2 (by omega) (by omega) rfl ?_
        refine hz_iconst (pc := 135) (v := nI 1) (hz_dec kX11_tick 68 rfl) (by decide) ?_
        refine hz_iadd (pc := 136) (hz_dec kX11_tick 69 rfl) ?_
        refine hz_puti (pc := 137) (hz_dec kX11_tick 70 rfl) fo_X11_336 ft_X6_13 hN2 (by omega) (by omega) (Nat.le_of_ble_eq_true rfl) ?_
        refine hz_mem (pc := 140) (M2 := (va_up M2 (63 + 34 * b) (.inr (6, [.int (nI b), .int (hz_b (arV H m).2.1), .ref (63 + 34 * b + 1), .int (nI (ksN (arV H m).1)), .int (pvI (ksF (arV H m).1)), .ref (63 + 34 * b + 21), .ref (63 + 34 * b + 2), .ref (63 + 34 * b + 10), .ref (63 + 34 * b + 13), .ref (63 + 34 * b + 14), .ref (63 + 34 * b + 15), .ref (63 + 34 * b + 18), .int ((ndL (hoN H) b).2.2.1 + 1), .int (((ndL (hoN H) b).2.2.2) + (nI (1)))])))) rfl ?_
        have hk4 := hk3.nd (by omega) ((ndL (hoN H) b).2.2.1 + 1) ((ndL (hoN H) b).2.2.2 + 1)
        have hf4 : frS [(9, 39), (45, 54), (57, 62), (63 + 34 * b, 63 + 34 * b + 34)] M (va_up M2 (63 + 34 * b) (.inr (6, [.int (nI b), .int (hz_b (arV H m).2.1), .ref (63 + 34 * b + 1), .int (nI (ksN (arV H m).1)), .int (pvI (ksF (arV H m).1)), .ref (63 + 34 * b + 21), .ref (63 + 34 * b + 2), .ref (63 + 34 * b + 10), .ref (63 + 34 * b + 13), .ref (63 + 34 * b + 14), .ref (63 + 34 * b + 15), .ref (63 + 34 * b + 18), .int ((ndL (hoN H) b).2.2.1 + 1), .int (((ndL (hoN H) b).2.2.2) + (nI (1)))]))) := fun q hq => (va_up_ne _ _ (fun e => by have r := hq.2.2.2.1; omega)).trans (hf12 q hq)
        have h574 : ∃ g : Nat → Int32, (va_up M2 (63 + 34 * b) (.inr (6, [.int (nI b), .int (hz_b (arV H m).2.1), .ref (63 + 34 * b + 1), .int (nI (ksN (arV H m).1)), .int (pvI (ksF (arV H m).1)), .ref (63 + 34 * b + 21), .ref (63 + 34 * b + 2), .ref (63 + 34 * b + 10), .ref (63 + 34 * b + 13), .ref (63 + 34 * b + 14), .ref (63 + 34 * b + 15), .ref (63 + 34 * b + 18), .int ((ndL (hoN H) b).2.2.1 + 1), .int (((ndL (hoN H) b).2.2.2) + (nI (1)))]))) 57 = .inl (1, 1280, .inl g) := by obtain ⟨g9, q9⟩ := h572; exact ⟨g9, (va_up_ne _ _ (by omega)).trans q9⟩
        refine hz_pick (pc := 140) [1, 3, 4, 5, 6] rfl ?_
        refine K _ ll2 m.1 (nI 1) hf4 ?_
        unfold arS
        rw [hrb, en]
        exact hR.put hb hf4 (N := ((arV H m).1, (arV H m).2.1, (ndL (hoN H) b).2.2.1 + 1, (ndL (hoN H) b).2.2.2 + 1)) hk4 h574
    · skip
      exact absurd h2 (by decide)
  · skip
    exact absurd h1 (by decide)
set_option maxHeartbeats 4000000 in
set_option maxRecDepth 100000 in
theorem c_arr2 {κ : hz_C} {z : Nat} {M : hz_M} {H : ho_H} (hz : 63 + 34 * (hoN H).length ≤ z) (hnn : (hoN H).length ≤ 6) {m : ms_M} (hR : hcR M z H m.2.2.2.2.length m.1 (nI 2)) {g : Nat → Int32} (hg : M 53 = .inl (1, 4000, .inl g)) (hA : isA g 0 m.2.2.2.2) {a b : Nat} (ha : m.1 = nI a) (han : a < (hoN H).length) (hrb : rcvI m = b) (hb : b < (hoN H).length) (hkd : kdI m = 2) (hl4 : m.2.2.2.2.length ≤ 4000) (hup : (ndL (hoN H) b).2.1 = true) (hI : ksI (ndL (hoN H) b).1) {cc kk tt nt : Nat} {P : hz_P} (K : ∀ M2 ll2 fr2 kn2, frS [(9, 39), (45, 54), (57, 62), (63 + 34 * b, 63 + 34 * b + 34)] M M2 → hcR M2 z (arS H m) ll2 fr2 kn2 → hz_W κ xX11_tick 17 0 0 P 0 0 140 [(2, .int (nI (cc + 1))), (4, .int (nI kk)), (3, .int (nI tt)), (0, .ref 8), (1, .int (nI nt))] [] z M2) : hz_W κ xX11_tick 17 0 0 P 0 0 60 [(5, .ref (63 + 34 * b)), (2, .int (nI cc)), (4, .int (nI kk)), (3, .int (nI tt)), (0, .ref 8), (1, .int (nI nt))] [] z M := by
  have hk0 := hR.kc hb
  have hsd : sdI m = a := sdI_n ha (by omega)
  obtain ⟨g57, h57⟩ := hR.2.2.2.2.2.2.2.2.1
  have hk1 : kcR M z (63 + 34 * b) (hoN H).length b (hoT H).length (hoE H) (hoW H) m.1 (nI 2) (ndL (hoN H) b).2.2.1 (ndL (hoN H) b).2.2.2 (nI 1) (hoD H) m.2.2.2.2.length (ksq (ndL (hoN H) b).1 (hoQ H)) := by rw [hup] at hk0; exact hk0
  have hN := hk1.2.2.1
  have hH := hk1.1
  have hml := hk1.2.2.2.2.2.2.2.2.2.1
  have hto : (∃ c, c < (hoN H).length ∧ m.1 = nI c ∧ hoD H (6 * b + a) = hoD H (6 * b + c)) ∨ (m.1 < 0 ∧ hoD H (6 * b + a) = 0) := Or.inl ⟨a, han, ha, rfl⟩
  have hIq : ksI (ksq (ndL (hoN H) b).1 (hoQ H)) := ksq_I hI
  have eV : arV H m = rvS (hoN H).length (hoD H) (hoW H) b m.1 (hoD H (6 * b + a)) (ksq (ndL (hoN H) b).1 (hoQ H)) 2 m.2.2.2.2 := by unfold arV; rw [hrb, hsd, hkd]
  refine hz_incN (pc := 60) (i := 2) (lo2 := [(2, .int (nI (cc + 1))), (5, .ref (63 + 34 * b)), (4, .int (nI kk)), (3, .int (nI tt)), (0, .ref 8), (1, .int (nI nt))]) 1 (hz_dec kX11_tick 33 rfl) rfl (by decide) rfl ?_
  refine hz_aload (pc := 63) 1 (hz_dec kX11_tick 34 rfl) rfl ?_
  refine hz_dup (pc := 65) (hz_dec kX11_tick 35 rfl) rfl ?_
  refine hz_get (pc := 66) (hz_dec kX11_tick 36 rfl) fo_X11_327 hN (by omega) (by omega) rfl ?_
  refine hz_iconst (pc := 69) (v := nI 1) (hz_dec kX11_tick 37 rfl) (by decide) ?_
  refine hz_iadd (pc := 70) (hz_dec kX11_tick 38 rfl) ?_
  refine hz_puti (pc := 71) (hz_dec kX11_tick 39 rfl) fo_X11_327 ft_X6_12 hN (by omega) (by omega) (Nat.le_of_ble_eq_true rfl) ?_
  refine hz_mem (pc := 74) (M2 := (va_up M (63 + 34 * b) (.inr (6, [.int (nI b), .int (nI 1), .ref (63 + 34 * b + 1), .int (nI (ksN (ksq (ndL (hoN H) b).1 (hoQ H)))), .int (pvI (ksF (ksq (ndL (hoN H) b).1 (hoQ H)))), .ref (63 + 34 * b + 21), .ref (63 + 34 * b + 2), .ref (63 + 34 * b + 10), .ref (63 + 34 * b + 13), .ref (63 + 34 * b + 14), .ref (63 + 34 * b + 15), .ref (63 + 34 * b + 18), .int (((ndL (hoN H) b).2.2.1) + (nI (1))), .int ((ndL (hoN H) b).2.2.2)])))) rfl ?_
  have hk2 : kcR (va_up M (63 + 34 * b) (.inr (6, [.int (nI b), .int (nI 1), .ref (63 + 34 * b + 1), .int (nI (ksN (ksq (ndL (hoN H) b).1 (hoQ H)))), .int (pvI (ksF (ksq (ndL (hoN H) b).1 (hoQ H)))), .ref (63 + 34 * b + 21), .ref (63 + 34 * b + 2), .ref (63 + 34 * b + 10), .ref (63 + 34 * b + 13), .ref (63 + 34 * b + 14), .ref (63 + 34 * b + 15), .ref (63 + 34 * b + 18), .int (((ndL (hoN H) b).2.2.1) + (nI (1))), .int ((ndL (hoN H) b).2.2.2)]))) z (63 + 34 * b) (hoN H).length b (hoT H).length (hoE H) (hoW H) m.1 (nI 2) ((ndL (hoN H) b).2.2.1 + 1) (ndL (hoN H) b).2.2.2 (nI 1) (hoD H) m.2.2.2.2.length (ksq (ndL (hoN H) b).1 (hoQ H)) := hk1.nd (by omega) ((ndL (hoN H) b).2.2.1 + 1) (ndL (hoN H) b).2.2.2
  have hf1 : frS [(9, 39), (45, 54), (57, 62), (63 + 34 * b, 63 + 34 * b + 34)] M (va_up M (63 + 34 * b) (.inr (6, [.int (nI b), .int (nI 1), .ref (63 + 34 * b + 1), .int (nI (ksN (ksq (ndL (hoN H) b).1 (hoQ H)))), .int (pvI (ksF (ksq (ndL (hoN H) b).1 (hoQ H)))), .ref (63 + 34 * b + 21), .ref (63 + 34 * b + 2), .ref (63 + 34 * b + 10), .ref (63 + 34 * b + 13), .ref (63 + 34 * b + 14), .ref (63 + 34 * b + 15), .ref (63 + 34 * b + 18), .int (((ndL (hoN H) b).2.2.1) + (nI (1))), .int ((ndL (hoN H) b).2.2.2)]))) := fun q hq => va_up_ne _ _ (fun e => by have r := hq.2.2.2.1; omega)
  have hg1 : (va_up M (63 + 34 * b) (.inr (6, [.int (nI b), .int (nI 1), .ref (63 + 34 * b + 1), .int (nI (ksN (ksq (ndL (hoN H) b).1 (hoQ H)))), .int (pvI (ksF (ksq (ndL (hoN H) b).1 (hoQ H)))), .ref (63 + 34 * b + 21), .ref (63 + 34 * b + 2), .ref (63 + 34 * b + 10), .ref (63 + 34 * b + 13), .ref (63 + 34 * b + 14), .ref (63 + 34 * b + 15), .ref (63 + 34 * b + 18), .int (((ndL (hoN H) b).2.2.1) + (nI (1))), .int ((ndL (hoN H) b).2.2.2)]))) 53 = .inl (1, 4000, .inl g) := (va_up_ne _ _ (by omega)).trans hg
  have h571 : (va_up M (63 + 34 * b) (.inr (6, [.int (nI b), .int (nI 1), .ref (63 + 34 * b + 1), .int (nI (ksN (ksq (ndL (hoN H) b).1 (hoQ H)))), .int (pvI (ksF (ksq (ndL (hoN H) b).1 (hoQ H)))), .ref (63 + 34 * b + 21), .ref (63 + 34 * b + 2), .ref (63 + 34 * b + 10), .ref (63 + 34 * b + 13), .ref (63 + 34 * b + 14), .ref (63 + 34 * b + 15), .ref (63 + 34 * b + 18), .int (((ndL (hoN H) b).2.2.1) + (nI (1))), .int ((ndL (hoN H) b).2.2.2)]))) 57 = .inl (1, 1280, .inl g57) := (va_up_ne _ _ (by omega)).trans h57
  generalize (va_up M (63 + 34 * b) (.inr (6, [.int (nI b), .int (nI 1), .ref (63 + 34 * b + 1), .int (nI (ksN (ksq (ndL (hoN H) b).1 (hoQ H)))), .int (pvI (ksF (ksq (ndL (hoN H) b).1 (hoQ H)))), .ref (63 + 34 * b + 21), .ref (63 + 34 * b + 2), .ref (63 + 34 * b + 10), .ref (63 + 34 * b + 13), .ref (63 + 34 * b + 14), .ref (63 + 34 * b + 15), .ref (63 + 34 * b + 18), .int (((ndL (hoN H) b).2.2.1) + (nI (1))), .int ((ndL (hoN H) b).2.2.2)]))) = M1 at *
  have hH1 := hk2.1
  have hml1 := hk2.2.2.2.2.2.2.2.2.2.1
  refine hz_aloadn (pc := 74) 4 (hz_dec kX11_tick 40 rfl) rfl ?_
  refine hz_get (pc := 75) (hz_dec kX11_tick 41 rfl) fo_X11_62 hH1 (by omega) (by omega) rfl ?_
  refine hz_get (pc := 78) (hz_dec kX11_tick 42 rfl) fo_X11_330 hml1.1 (by omega) (by omega) rfl ?_
  refine hz_iconst (pc := 81) (v := nI 5) (hz_dec kX11_tick 43 rfl) (by decide) ?_
  refine hz_n_ne (pc := 82) (tgt := 94) (hz_dec kX11_tick 44 rfl) (by decide) (by omega) (by omega) (fun h1 => ?_) (fun h1 => ?_)
  · skip
    refine hz_aloadn (pc := 94) 4 (hz_dec kX11_tick 49 rfl) rfl ?_
    refine hz_get (pc := 95) (hz_dec kX11_tick 50 rfl) fo_X11_62 hH1 (by omega) (by omega) rfl ?_
    refine hz_get (pc := 98) (hz_dec kX11_tick 51 rfl) fo_X11_330 hml1.1 (by omega) (by omega) rfl ?_
    refine hz_bipush (pc := 101) (v := nI 6) (hz_dec kX11_tick 52 rfl) (by decide) ?_
    refine hz_n_ne (pc := 103) (tgt := 115) (hz_dec kX11_tick 53 rfl) (by decide) (by omega) (by omega) (fun h2 => ?_) (fun h2 => ?_)
    · skip
      refine hz_aloadn (pc := 115) 4 (hz_dec kX11_tick 58 rfl) rfl ?_
      refine hz_aload (pc := 116) 1 (hz_dec kX11_tick 59 rfl) rfl ?_
      refine hz_callV (pc := 118) (a := 8) (As := [.ref (63 + 34 * b)]) (st := []) (hz_dec kX11_tick 60 rfl) co_X11_333 im_X11_hear se_X11_hear rfl hH1 (by omega) (by omega) (c_hear2 (by omega) (by omega) hnn hb hto hk2 hIq hl4 hg1 hA h571) rfl (by decide) ⟨Nat.le_refl _, Nat.le_refl _⟩ (Nat.le_of_ble_eq_true rfl) rfl (fun r9 z9 M2 hp9 => ?_)
      obtain ⟨rfl, rfl, hf2, hk3, h572⟩ := hp9
      have hf2x : frS [(9, 39), (45, 54), (57, 62), (63 + 34 * b, 63 + 34 * b + 34)] M1 M2 := hf2.mono (fun q (h9 : outS [(9, 39), (45, 54), (57, 62), (63 + 34 * b, 63 + 34 * b + 34)] q) => ⟨by have r := h9.1; omega, by have r := h9.1; omega, by have r := h9.1; omega, by have r := h9.2.1; omega, by have r := h9.2.2.1; omega, by have r := h9.2.2.2.1; omega, by have r := h9.2.2.2.1; omega, trivial⟩)
      have hf12 := hf1.tr hf2x
      have e1 : (arV H m).1 = ksq (ksq (ndL (hoN H) b).1 (hoQ H)) (hrQ (hoW H) b m.1 (hoD H (6 * b + a)) (ksq (ndL (hoN H) b).1 (hoQ H)) 2 m.2.2.2.2) := by rw [eV, rvS_h (by decide)]
      have e2 : (arV H m).2.1 = true := by rw [eV, rvS_h (by decide)]
      have e3 : (arV H m).2.2 = true ↔ hz_b (!rwO (rwU 2) m.2.2.2.2) = 1 := by rw [eV, rvS_h (by decide)]; exact hz_b_1
      obtain ⟨ll2, hk3⟩ : ∃ ll2, kcR M2 z (63 + 34 * b) (hoN H).length b (hoT H).length (hoE H) (hoW H) m.1 (nI 2) ((ndL (hoN H) b).2.2.1 + 1) (ndL (hoN H) b).2.2.2 (hz_b (arV H m).2.1) (hoD H) ll2 (arV H m).1 := ⟨m.2.2.2.2.length, by rw [e1, e2]; exact hk3⟩
      have hN2 := hk3.2.2.1
      refine hz_topi (pc := 121) (fun y1 ey1 => ?_)
      refine hz_istore (pc := 121) (i := 6) (lo2 := [(6, .int y1), (2, .int (nI (cc + 1))), (5, .ref (63 + 34 * b)), (4, .int (nI kk)), (3, .int (nI tt)), (0, .ref 8), (1, .int (nI nt))]) (hz_dec kX11_tick 61 rfl) (by decide) rfl ?_
      refine hz_iload (pc := 123) 0 (hz_dec kX11_tick 62 rfl) rfl ?_
      refine hz_iconst (pc := 125) (v := nI 1) (hz_dec kX11_tick 63 rfl) (by decide) ?_
      refine hz_icmp_ne (pc := 126) (tgt := 140) (hz_dec kX11_tick 64 rfl) (by decide) (fun hv => ?_) (fun hv => ?_)
      · skip
        have hv9 : ¬ hz_b (!rwO (rwU 2) m.2.2.2.2) = 1 := by first | exact hv | (rw [← ey1]; exact hv)
        have en : arN H m = ((arV H m).1, (arV H m).2.1, (ndL (hoN H) b).2.2.1 + 1, (ndL (hoN H) b).2.2.2) := by unfold arN; rw [hrb, if_neg (fun q => hv9 (e3.mp q))]
        refine hz_pick (pc := 140) [1, 3, 4, 5, 6] rfl ?_
        refine K M2 ll2 m.1 (nI 2) hf12 ?_
        unfold arS
        rw [hrb, en]
        exact hR.put hb hf12 (N := ((arV H m).1, (arV H m).2.1, (ndL (hoN H) b).2.2.1 + 1, (ndL (hoN H) b).2.2.2)) hk3 h572
      · skip
        have hv9 : hz_b (!rwO (rwU 2) m.2.2.2.2) = 1 := by first | exact hv | (rw [← ey1]; exact hv)
        have en : arN H m = ((arV H m).1, (arV H m).2.1, (ndL (hoN H) b).2.2.1 + 1, (ndL (hoN H) b).2.2.2 + 1) := by unfold arN; rw [hrb, if_pos (e3.mpr hv9)]
        refine hz_aload (pc := 129) 2 (hz_dec kX11_tick 65 rfl) rfl ?_
        refine hz_dup (pc := 131) (hz_dec kX11_tick 66 rfl) rfl ?_
        refine hz_get (pc := 132) (hz_dec kX11_tick 67 rfl) fo_X11_336 hN2 (by omega) (by omega) rfl ?_
        refine hz_iconst (pc := 135) (v := nI 1) (hz_dec kX11_tick 68 rfl) (by decide) ?_
        refine hz_iadd (pc := 136) (hz_dec kX11_tick 69 rfl) ?_
        refine hz_puti (pc := 137) (hz_dec kX11_tick 70 rfl) fo_X11_336 ft_X6_13 hN2 (by omega) (by omega) (Nat.le_of_ble_eq_true rfl) ?_
        refine hz_mem (pc := 140) (M2 := (va_up M2 (63 + 34 * b) (.inr (6, [.int (nI b), .int (hz_b (arV H m).2.1), .ref (63 + 34 * b + 1), .int (nI (ksN (arV H m).1)), .int (pvI (ksF (arV H m).1)), .ref (63 + 34 * b + 21), .ref (63 + 34 * b + 2), .ref (63 + 34 * b + 10), .ref (63 + 34 * b + 13), .ref (63 + 34 * b + 14), .ref (63 + 34 * b + 15), .ref (63 + 34 * b + 18), .int ((ndL (hoN H) b).2.2.1 + 1), .int (((ndL (hoN H) b).2.2.2) + (nI (1)))])))) rfl ?_
        have hk4 := hk3.nd (by omega) ((ndL (hoN H) b).2.2.1 + 1) ((ndL (hoN H) b).2.2.2 + 1)
        have hf4 : frS [(9, 39), (45, 54), (57, 62), (63 + 34 * b, 63 + 34 * b + 34)] M (va_up M2 (63 + 34 * b) (.inr (6, [.int (nI b), .int (hz_b (arV H m).2.1), .ref (63 + 34 * b + 1), .int (nI (ksN (arV H m).1)), .int (pvI (ksF (arV H m).1)), .ref (63 + 34 * b + 21), .ref (63 + 34 * b + 2), .ref (63 + 34 * b + 10), .ref (63 + 34 * b + 13), .ref (63 + 34 * b + 14), .ref (63 + 34 * b + 15), .ref (63 + 34 * b + 18), .int ((ndL (hoN H) b).2.2.1 + 1), .int (((ndL (hoN H) b).2.2.2) + (nI (1)))]))) := fun q hq => (va_up_ne _ _ (fun e => by have r := hq.2.2.2.1; omega)).trans (hf12 q hq)
        have h574 : ∃ g : Nat → Int32, (va_up M2 (63 + 34 * b) (.inr (6, [.int (nI b), .int (hz_b (arV H m).2.1), .ref (63 + 34 * b + 1), .int (nI (ksN (arV H m).1)), .int (pvI (ksF (arV H m).1)), .ref (63 + 34 * b + 21), .ref (63 + 34 * b + 2), .ref (63 + 34 * b + 10), .ref (63 + 34 * b + 13), .ref (63 + 34 * b + 14), .ref (63 + 34 * b + 15), .ref (63 + 34 * b + 18), .int ((ndL (hoN H) b).2.2.1 + 1), .int (((ndL (hoN H) b).2.2.2) + (nI (1)))]))) 57 = .inl (1, 1280, .inl g) := by obtain ⟨g9, q9⟩ := h572; exact ⟨g9, (va_up_ne _ _ (by omega)).trans q9⟩
        refine hz_pick (pc := 140) [1, 3, 4, 5, 6] rfl ?_
        refine K _ ll2 m.1 (nI 2) hf4 ?_
        unfold arS
        rw [hrb, en]
        exact hR.put hb hf4 (N := ((arV H m).1, (arV H m).2.1, (ndL (hoN H) b).2.2.1 + 1, (ndL (hoN H) b).2.2.2 + 1)) hk4 h574
    · skip
      exact absurd h2 (by decide)
  · skip
    exact absurd h1 (by decide)
set_option maxHeartbeats 4000000 in
set_option maxRecDepth 100000 in
theorem c_arr3 {κ : hz_C} {z : Nat} {M : hz_M} {H : ho_H} (hz : 63 + 34 * (hoN H).length ≤ z) (hnn : (hoN H).length ≤ 6) {m : ms_M} (hR : hcR M z H m.2.2.2.2.length m.1 (nI 3)) {g : Nat → Int32} (hg : M 53 = .inl (1, 4000, .inl g)) (hA : isA g 0 m.2.2.2.2) {a b : Nat} (ha : m.1 = nI a) (han : a < (hoN H).length) (hrb : rcvI m = b) (hb : b < (hoN H).length) (hkd : kdI m = 3) (hl4 : m.2.2.2.2.length ≤ 4000) (hup : (ndL (hoN H) b).2.1 = true) (hI : ksI (ndL (hoN H) b).1) {cc kk tt nt : Nat} {P : hz_P} (K : ∀ M2 ll2 fr2 kn2, frS [(9, 39), (45, 54), (57, 62), (63 + 34 * b, 63 + 34 * b + 34)] M M2 → hcR M2 z (arS H m) ll2 fr2 kn2 → hz_W κ xX11_tick 17 0 0 P 0 0 140 [(2, .int (nI (cc + 1))), (4, .int (nI kk)), (3, .int (nI tt)), (0, .ref 8), (1, .int (nI nt))] [] z M2) : hz_W κ xX11_tick 17 0 0 P 0 0 60 [(5, .ref (63 + 34 * b)), (2, .int (nI cc)), (4, .int (nI kk)), (3, .int (nI tt)), (0, .ref 8), (1, .int (nI nt))] [] z M := by
  have hk0 := hR.kc hb
  have hsd : sdI m = a := sdI_n ha (by omega)
  obtain ⟨g57, h57⟩ := hR.2.2.2.2.2.2.2.2.1
  have hk1 : kcR M z (63 + 34 * b) (hoN H).length b (hoT H).length (hoE H) (hoW H) m.1 (nI 3) (ndL (hoN H) b).2.2.1 (ndL (hoN H) b).2.2.2 (nI 1) (hoD H) m.2.2.2.2.length (ksq (ndL (hoN H) b).1 (hoQ H)) := by rw [hup] at hk0; exact hk0
  have hN := hk1.2.2.1
  have hH := hk1.1
  have hml := hk1.2.2.2.2.2.2.2.2.2.1
  have hto : (∃ c, c < (hoN H).length ∧ m.1 = nI c ∧ hoD H (6 * b + a) = hoD H (6 * b + c)) ∨ (m.1 < 0 ∧ hoD H (6 * b + a) = 0) := Or.inl ⟨a, han, ha, rfl⟩
  have hIq : ksI (ksq (ndL (hoN H) b).1 (hoQ H)) := ksq_I hI
  have eV : arV H m = rvS (hoN H).length (hoD H) (hoW H) b m.1 (hoD H (6 * b + a)) (ksq (ndL (hoN H) b).1 (hoQ H)) 3 m.2.2.2.2 := by unfold arV; rw [hrb, hsd, hkd]
  refine hz_incN (pc := 60) (i := 2) (lo2 := [(2, .int (nI (cc + 1))), (5, .ref (63 + 34 * b)), (4, .int (nI kk)), (3, .int (nI tt)), (0, .ref 8), (1, .int (nI nt))]) 1 (hz_dec kX11_tick 33 rfl) rfl (by decide) rfl ?_
  refine hz_aload (pc := 63) 1 (hz_dec kX11_tick 34 rfl) rfl ?_
  refine hz_dup (pc := 65) (hz_dec kX11_tick 35 rfl) rfl ?_
  refine hz_get (pc := 66) (hz_dec kX11_tick 36 rfl) fo_X11_327 hN (by omega) (by omega) rfl ?_
  refine hz_iconst (pc := 69) (v := nI 1) (hz_dec kX11_tick 37 rfl) (by decide) ?_
  refine hz_iadd (pc := 70) (hz_dec kX11_tick 38 rfl) ?_
  refine hz_puti (pc := 71) (hz_dec kX11_tick 39 rfl) fo_X11_327 ft_X6_12 hN (by omega) (by omega) (Nat.le_of_ble_eq_true rfl) ?_
  refine hz_mem (pc := 74) (M2 := (va_up M (63 + 34 * b) (.inr (6, [.int (nI b), .int (nI 1), .ref (63 + 34 * b + 1), .int (nI (ksN (ksq (ndL (hoN H) b).1 (hoQ H)))), .int (pvI (ksF (ksq (ndL (hoN H) b).1 (hoQ H)))), .ref (63 + 34 * b + 21), .ref (63 + 34 * b + 2), .ref (63 + 34 * b + 10), .ref (63 + 34 * b + 13), .ref (63 + 34 * b + 14), .ref (63 + 34 * b + 15), .ref (63 + 34 * b + 18), .int (((ndL (hoN H) b).2.2.1) + (nI (1))), .int ((ndL (hoN H) b).2.2.2)])))) rfl ?_
  have hk2 : kcR (va_up M (63 + 34 * b) (.inr (6, [.int (nI b), .int (nI 1), .ref (63 + 34 * b + 1), .int (nI (ksN (ksq (ndL (hoN H) b).1 (hoQ H)))), .int (pvI (ksF (ksq (ndL (hoN H) b).1 (hoQ H)))), .ref (63 + 34 * b + 21), .ref (63 + 34 * b + 2), .ref (63 + 34 * b + 10), .ref (63 + 34 * b + 13), .ref (63 + 34 * b + 14), .ref (63 + 34 * b + 15), .ref (63 + 34 * b + 18), .int (((ndL (hoN H) b).2.2.1) + (nI (1))), .int ((ndL (hoN H) b).2.2.2)]))) z (63 + 34 * b) (hoN H).length b (hoT H).length (hoE H) (hoW H) m.1 (nI 3) ((ndL (hoN H) b).2.2.1 + 1) (ndL (hoN H) b).2.2.2 (nI 1) (hoD H) m.2.2.2.2.length (ksq (ndL (hoN H) b).1 (hoQ H)) := hk1.nd (by omega) ((ndL (hoN H) b).2.2.1 + 1) (ndL (hoN H) b).2.2.2
  have hf1 : frS [(9, 39), (45, 54), (57, 62), (63 + 34 * b, 63 + 34 * b + 34)] M (va_up M (63 + 34 * b) (.inr (6, [.int (nI b), .int (nI 1), .ref (63 + 34 * b + 1), .int (nI (ksN (ksq (ndL (hoN H) b).1 (hoQ H)))), .int (pvI (ksF (ksq (ndL (hoN H) b).1 (hoQ H)))), .ref (63 + 34 * b + 21), .ref (63 + 34 * b + 2), .ref (63 + 34 * b + 10), .ref (63 + 34 * b + 13), .ref (63 + 34 * b + 14), .ref (63 + 34 * b + 15), .ref (63 + 34 * b + 18), .int (((ndL (hoN H) b).2.2.1) + (nI (1))), .int ((ndL (hoN H) b).2.2.2)]))) := fun q hq => va_up_ne _ _ (fun e => by have r := hq.2.2.2.1; omega)
  have hg1 : (va_up M (63 + 34 * b) (.inr (6, [.int (nI b), .int (nI 1), .ref (63 + 34 * b + 1), .int (nI (ksN (ksq (ndL (hoN H) b).1 (hoQ H)))), .int (pvI (ksF (ksq (ndL (hoN H) b).1 (hoQ H)))), .ref (63 + 34 * b + 21), .ref (63 + 34 * b + 2), .ref (63 + 34 * b + 10), .ref (63 + 34 * b + 13), .ref (63 + 34 * b + 14), .ref (63 + 34 * b + 15), .ref (63 + 34 * b + 18), .int (((ndL (hoN H) b).2.2.1) + (nI (1))), .int ((ndL (hoN H) b).2.2.2)]))) 53 = .inl (1, 4000, .inl g) := (va_up_ne _ _ (by omega)).trans hg
  have h571 : (va_up M (63 + 34 * b) (.inr (6, [.int (nI b), .int (nI 1), .ref (63 + 34 * b + 1), .int (nI (ksN (ksq (ndL (hoN H) b).1 (hoQ H)))), .int (pvI (ksF (ksq (ndL (hoN H) b).1 (hoQ H)))), .ref (63 + 34 * b + 21), .ref (63 + 34 * b + 2), .ref (63 + 34 * b + 10), .ref (63 + 34 * b + 13), .ref (63 + 34 * b + 14), .ref (63 + 34 * b + 15), .ref (63 + 34 * b + 18), .int (((ndL (hoN H) b).2.2.1) + (nI (1))), .int ((ndL (hoN H) b).2.2.2)]))) 57 = .inl (1, 1280, .inl g57) := (va_up_ne _ _ (by omega)).trans h57
  generalize (va_up M (63 + 34 * b) (.inr (6, [.int (nI b), .int (nI 1), .ref (63 + 34 * b + 1), .int (nI (ksN (ksq (ndL (hoN H) b).1 (hoQ H)))), .int (pvI (ksF (ksq (ndL (hoN H) b).1 (hoQ H)))), .ref (63 + 34 * b + 21), .ref (63 + 34 * b + 2), .ref (63 + 34 * b + 10), .ref (63 + 34 * b + 13), .ref (63 + 34 * b + 14), .ref (63 + 34 * b + 15), .ref (63 + 34 * b + 18), .int (((ndL (hoN H) b).2.2.1) + (nI (1))), .int ((ndL (hoN H) b).2.2.2)]))) = M1 at *
  have hH1 := hk2.1
  have hml1 := hk2.2.2.2.2.2.2.2.2.2.1
  refine hz_aloadn (pc := 74) 4 (hz_dec kX11_tick 40 rfl) rfl ?_
  refine hz_get (pc := 75) (hz_dec kX11_tick 41 rfl) fo_X11_62 hH1 (by omega) (by omega) rfl ?_
  refine hz_get (pc := 78) (hz_dec kX11_tick 42 rfl) fo_X11_330 hml1.1 (by omega) (by omega) rfl ?_
  refine hz_iconst (pc := 81) (v := nI 5) (hz_dec kX11_tick 43 rfl) (by decide) ?_
  refine hz_n_ne (pc := 82) (tgt := 94) (hz_dec kX11_tick 44 rfl) (by decide) (by omega) (by omega) (fun h1 => ?_) (fun h1 => ?_)
  · skip
    refine hz_aloadn (pc := 94) 4 (hz_dec kX11_tick 49 rfl) rfl ?_
    refine hz_get (pc := 95) (hz_dec kX11_tick 50 rfl) fo_X11_62 hH1 (by omega) (by omega) rfl ?_
    refine hz_get (pc := 98) (hz_dec kX11_tick 51 rfl) fo_X11_330 hml1.1 (by omega) (by omega) rfl ?_
    refine hz_bipush (pc := 101) (v := nI 6) (hz_dec kX11_tick 52 rfl) (by decide) ?_
    refine hz_n_ne (pc := 103) (tgt := 115) (hz_dec kX11_tick 53 rfl) (by decide) (by omega) (by omega) (fun h2 => ?_) (fun h2 => ?_)
    · skip
      refine hz_aloadn (pc := 115) 4 (hz_dec kX11_tick 58 rfl) rfl ?_
      refine hz_aload (pc := 116) 1 (hz_dec kX11_tick 59 rfl) rfl ?_
      refine hz_callV (pc := 118) (a := 8) (As := [.ref (63 + 34 * b)]) (st := []) (hz_dec kX11_tick 60 rfl) co_X11_333 im_X11_hear se_X11_hear rfl hH1 (by omega) (by omega) (c_hear3 (by omega) (by omega) hnn hb hto hk2 hIq hl4 hg1 hA h571) rfl (by decide) ⟨Nat.le_refl _, Nat.le_refl _⟩ (Nat.le_of_ble_eq_true rfl) rfl (fun r9 z9 M2 hp9 => ?_)
      obtain ⟨rfl, rfl, hf2, hk3, h572⟩ := hp9
      have hf2x : frS [(9, 39), (45, 54), (57, 62), (63 + 34 * b, 63 + 34 * b + 34)] M1 M2 := hf2.mono (fun q (h9 : outS [(9, 39), (45, 54), (57, 62), (63 + 34 * b, 63 + 34 * b + 34)] q) => ⟨by have r := h9.1; omega, by have r := h9.1; omega, by have r := h9.1; omega, by have r := h9.2.1; omega, by have r := h9.2.2.1; omega, by have r := h9.2.2.2.1; omega, by have r := h9.2.2.2.1; omega, trivial⟩)
      have hf12 := hf1.tr hf2x
      have e1 : (arV H m).1 = ksq (ksq (ndL (hoN H) b).1 (hoQ H)) (hrQ (hoW H) b m.1 (hoD H (6 * b + a)) (ksq (ndL (hoN H) b).1 (hoQ H)) 3 m.2.2.2.2) := by rw [eV, rvS_h (by decide)]
      have e2 : (arV H m).2.1 = true := by rw [eV, rvS_h (by decide)]
      have e3 : (arV H m).2.2 = true ↔ hz_b (!rwO (rwU 3) m.2.2.2.2) = 1 := by rw [eV, rvS_h (by decide)]; exact hz_b_1
      obtain ⟨ll2, hk3⟩ : ∃ ll2, kcR M2 z (63 + 34 * b) (hoN H).length b (hoT H).length (hoE H) (hoW H) m.1 (nI 3) ((ndL (hoN H) b).2.2.1 + 1) (ndL (hoN H) b).2.2.2 (hz_b (arV H m).2.1) (hoD H) ll2 (arV H m).1 := ⟨m.2.2.2.2.length, by rw [e1, e2]; exact hk3⟩
      have hN2 := hk3.2.2.1
      refine hz_topi (pc := 121) (fun y1 ey1 => ?_)
      refine hz_istore (pc := 121) (i := 6) (lo2 := [(6, .int y1), (2, .int (nI (cc + 1))), (5, .ref (63 + 34 * b)), (4, .int (nI kk)), (3, .int (nI tt)), (0, .ref 8), (1, .int (nI nt))]) (hz_dec kX11_tick 61 rfl) (by decide) rfl ?_
      refine hz_iload (pc := 123) 0 (hz_dec kX11_tick 62 rfl) rfl ?_
      refine hz_iconst (pc := 125) (v := nI 1) (hz_dec kX11_tick 63 rfl) (by decide) ?_
      refine hz_icmp_ne (pc := 126) (tgt := 140) (hz_dec kX11_tick 64 rfl) (by decide) (fun hv => ?_) (fun hv => ?_)
      · skip
        have hv9 : ¬ hz_b (!rwO (rwU 3) m.2.2.2.2) = 1 := by first | exact hv | (rw [← ey1]; exact hv)
        have en : arN H m = ((arV H m).1, (arV H m).2.1, (ndL (hoN H) b).2.2.1 + 1, (ndL (hoN H) b).2.2.2) := by unfold arN; rw [hrb, if_neg (fun q => hv9 (e3.mp q))]
        refine hz_pick (pc := 140) [1, 3, 4, 5, 6] rfl ?_
        refine K M2 ll2 m.1 (nI 3) hf12 ?_
        unfold arS
        rw [hrb, en]
        exact hR.put hb hf12 (N := ((arV H m).1, (arV H m).2.1, (ndL (hoN H) b).2.2.1 + 1, (ndL (hoN H) b).2.2.2)) hk3 h572
      · skip
        have hv9 : hz_b (!rwO (rwU 3) m.2.2.2.2) = 1 := by first | exact hv | (rw [← ey1]; exact hv)
        have en : arN H m = ((arV H m).1, (arV H m).2.1, (ndL (hoN H) b).2.2.1 + 1, (ndL (hoN H) b).2.2.2 + 1) := by unfold arN; rw [hrb, if_pos (e3.mpr hv9)]
        refine hz_aload (pc := 129) 2 (hz_dec kX11_tick 65 rfl) rfl ?_
        refine hz_dup (pc := 131) (hz_dec kX11_tick 66 rfl) rfl ?_
        refine hz_get (pc := 132) (hz_dec kX11_tick 67 rfl) fo_X11_336 hN2 (by omega) (by omega) rfl ?_
        refine hz_iconst (pc := 135) (v := nI 1) (hz_dec kX11_tick 68 rfl) (by decide) ?_
        refine hz_iadd (pc := 136) (hz_dec kX11_tick 69 rfl) ?_
        refine hz_puti (pc := 137) (hz_dec kX11_tick 70 rfl) fo_X11_336 ft_X6_13 hN2 (by omega) (by omega) (Nat.le_of_ble_eq_true rfl) ?_
        refine hz_mem (pc := 140) (M2 := (va_up M2 (63 + 34 * b) (.inr (6, [.int (nI b), .int (hz_b (arV H m).2.1), .ref (63 + 34 * b + 1), .int (nI (ksN (arV H m).1)), .int (pvI (ksF (arV H m).1)), .ref (63 + 34 * b + 21), .ref (63 + 34 * b + 2), .ref (63 + 34 * b + 10), .ref (63 + 34 * b + 13), .ref (63 + 34 * b + 14), .ref (63 + 34 * b + 15), .ref (63 + 34 * b + 18), .int ((ndL (hoN H) b).2.2.1 + 1), .int (((ndL (hoN H) b).2.2.2) + (nI (1)))])))) rfl ?_
        have hk4 := hk3.nd (by omega) ((ndL (hoN H) b).2.2.1 + 1) ((ndL (hoN H) b).2.2.2 + 1)
        have hf4 : frS [(9, 39), (45, 54), (57, 62), (63 + 34 * b, 63 + 34 * b + 34)] M (va_up M2 (63 + 34 * b) (.inr (6, [.int (nI b), .int (hz_b (arV H m).2.1), .ref (63 + 34 * b + 1), .int (nI (ksN (arV H m).1)), .int (pvI (ksF (arV H m).1)), .ref (63 + 34 * b + 21), .ref (63 + 34 * b + 2), .ref (63 + 34 * b + 10), .ref (63 + 34 * b + 13), .ref (63 + 34 * b + 14), .ref (63 + 34 * b + 15), .ref (63 + 34 * b + 18), .int ((ndL (hoN H) b).2.2.1 + 1), .int (((ndL (hoN H) b).2.2.2) + (nI (1)))]))) := fun q hq => (va_up_ne _ _ (fun e => by have r := hq.2.2.2.1; omega)).trans (hf12 q hq)
        have h574 : ∃ g : Nat → Int32, (va_up M2 (63 + 34 * b) (.inr (6, [.int (nI b), .int (hz_b (arV H m).2.1), .ref (63 + 34 * b + 1), .int (nI (ksN (arV H m).1)), .int (pvI (ksF (arV H m).1)), .ref (63 + 34 * b + 21), .ref (63 + 34 * b + 2), .ref (63 + 34 * b + 10), .ref (63 + 34 * b + 13), .ref (63 + 34 * b + 14), .ref (63 + 34 * b + 15), .ref (63 + 34 * b + 18), .int ((ndL (hoN H) b).2.2.1 + 1), .int (((ndL (hoN H) b).2.2.2) + (nI (1)))]))) 57 = .inl (1, 1280, .inl g) := by obtain ⟨g9, q9⟩ := h572; exact ⟨g9, (va_up_ne _ _ (by omega)).trans q9⟩
        refine hz_pick (pc := 140) [1, 3, 4, 5, 6] rfl ?_
        refine K _ ll2 m.1 (nI 3) hf4 ?_
        unfold arS
        rw [hrb, en]
        exact hR.put hb hf4 (N := ((arV H m).1, (arV H m).2.1, (ndL (hoN H) b).2.2.1 + 1, (ndL (hoN H) b).2.2.2 + 1)) hk4 h574
    · skip
      exact absurd h2 (by decide)
  · skip
    exact absurd h1 (by decide)
set_option maxHeartbeats 4000000 in
set_option maxRecDepth 100000 in
theorem c_arr4 {κ : hz_C} {z : Nat} {M : hz_M} {H : ho_H} (hz : 63 + 34 * (hoN H).length ≤ z) (hnn : (hoN H).length ≤ 6) {m : ms_M} (hR : hcR M z H m.2.2.2.2.length m.1 (nI 4)) {g : Nat → Int32} (hg : M 53 = .inl (1, 4000, .inl g)) (hA : isA g 0 m.2.2.2.2) {a b : Nat} (ha : m.1 = nI a) (han : a < (hoN H).length) (hrb : rcvI m = b) (hb : b < (hoN H).length) (hkd : kdI m = 4) (hl4 : m.2.2.2.2.length ≤ 4000) (hup : (ndL (hoN H) b).2.1 = true) (hI : ksI (ndL (hoN H) b).1) {cc kk tt nt : Nat} {P : hz_P} (K : ∀ M2 ll2 fr2 kn2, frS [(9, 39), (45, 54), (57, 62), (63 + 34 * b, 63 + 34 * b + 34)] M M2 → hcR M2 z (arS H m) ll2 fr2 kn2 → hz_W κ xX11_tick 17 0 0 P 0 0 140 [(2, .int (nI (cc + 1))), (4, .int (nI kk)), (3, .int (nI tt)), (0, .ref 8), (1, .int (nI nt))] [] z M2) : hz_W κ xX11_tick 17 0 0 P 0 0 60 [(5, .ref (63 + 34 * b)), (2, .int (nI cc)), (4, .int (nI kk)), (3, .int (nI tt)), (0, .ref 8), (1, .int (nI nt))] [] z M := by
  have hk0 := hR.kc hb
  have hsd : sdI m = a := sdI_n ha (by omega)
  obtain ⟨g57, h57⟩ := hR.2.2.2.2.2.2.2.2.1
  have hk1 : kcR M z (63 + 34 * b) (hoN H).length b (hoT H).length (hoE H) (hoW H) m.1 (nI 4) (ndL (hoN H) b).2.2.1 (ndL (hoN H) b).2.2.2 (nI 1) (hoD H) m.2.2.2.2.length (ksq (ndL (hoN H) b).1 (hoQ H)) := by rw [hup] at hk0; exact hk0
  have hN := hk1.2.2.1
  have hH := hk1.1
  have hml := hk1.2.2.2.2.2.2.2.2.2.1
  have hto : (∃ c, c < (hoN H).length ∧ m.1 = nI c ∧ hoD H (6 * b + a) = hoD H (6 * b + c)) ∨ (m.1 < 0 ∧ hoD H (6 * b + a) = 0) := Or.inl ⟨a, han, ha, rfl⟩
  have hIq : ksI (ksq (ndL (hoN H) b).1 (hoQ H)) := ksq_I hI
  have eV : arV H m = rvS (hoN H).length (hoD H) (hoW H) b m.1 (hoD H (6 * b + a)) (ksq (ndL (hoN H) b).1 (hoQ H)) 4 m.2.2.2.2 := by unfold arV; rw [hrb, hsd, hkd]
  refine hz_incN (pc := 60) (i := 2) (lo2 := [(2, .int (nI (cc + 1))), (5, .ref (63 + 34 * b)), (4, .int (nI kk)), (3, .int (nI tt)), (0, .ref 8), (1, .int (nI nt))]) 1 (hz_dec kX11_tick 33 rfl) rfl (by decide) rfl ?_
  refine hz_aload (pc := 63) 1 (hz_dec kX11_tick 34 rfl) rfl ?_
  refine hz_dup (pc := 65) (hz_dec kX11_tick 35 rfl) rfl ?_
  refine hz_get (pc := 66) (hz_dec kX11_tick 36 rfl) fo_X11_327 hN (by omega) (by omega) rfl ?_
  refine hz_iconst (pc := 69) (v := nI 1) (hz_dec kX11_tick 37 rfl) (by decide) ?_
  refine hz_iadd (pc := 70) (hz_dec kX11_tick 38 rfl) ?_
  refine hz_puti (pc := 71) (hz_dec kX11_tick 39 rfl) fo_X11_327 ft_X6_12 hN (by omega) (by omega) (Nat.le_of_ble_eq_true rfl) ?_
  refine hz_mem (pc := 74) (M2 := (va_up M (63 + 34 * b) (.inr (6, [.int (nI b), .int (nI 1), .ref (63 + 34 * b + 1), .int (nI (ksN (ksq (ndL (hoN H) b).1 (hoQ H)))), .int (pvI (ksF (ksq (ndL (hoN H) b).1 (hoQ H)))), .ref (63 + 34 * b + 21), .ref (63 + 34 * b + 2), .ref (63 + 34 * b + 10), .ref (63 + 34 * b + 13), .ref (63 + 34 * b + 14), .ref (63 + 34 * b + 15), .ref (63 + 34 * b + 18), .int (((ndL (hoN H) b).2.2.1) + (nI (1))), .int ((ndL (hoN H) b).2.2.2)])))) rfl ?_
  have hk2 : kcR (va_up M (63 + 34 * b) (.inr (6, [.int (nI b), .int (nI 1), .ref (63 + 34 * b + 1), .int (nI (ksN (ksq (ndL (hoN H) b).1 (hoQ H)))), .int (pvI (ksF (ksq (ndL (hoN H) b).1 (hoQ H)))), .ref (63 + 34 * b + 21), .ref (63 + 34 * b + 2), .ref (63 + 34 * b + 10), .ref (63 + 34 * b + 13), .ref (63 + 34 * b + 14), .ref (63 + 34 * b + 15), .ref (63 + 34 * b + 18), .int (((ndL (hoN H) b).2.2.1) + (nI (1))), .int ((ndL (hoN H) b).2.2.2)]))) z (63 + 34 * b) (hoN H).length b (hoT H).length (hoE H) (hoW H) m.1 (nI 4) ((ndL (hoN H) b).2.2.1 + 1) (ndL (hoN H) b).2.2.2 (nI 1) (hoD H) m.2.2.2.2.length (ksq (ndL (hoN H) b).1 (hoQ H)) := hk1.nd (by omega) ((ndL (hoN H) b).2.2.1 + 1) (ndL (hoN H) b).2.2.2
  have hf1 : frS [(9, 39), (45, 54), (57, 62), (63 + 34 * b, 63 + 34 * b + 34)] M (va_up M (63 + 34 * b) (.inr (6, [.int (nI b), .int (nI 1), .ref (63 + 34 * b + 1), .int (nI (ksN (ksq (ndL (hoN H) b).1 (hoQ H)))), .int (pvI (ksF (ksq (ndL (hoN H) b).1 (hoQ H)))), .ref (63 + 34 * b + 21), .ref (63 + 34 * b + 2), .ref (63 + 34 * b + 10), .ref (63 + 34 * b + 13), .ref (63 + 34 * b + 14), .ref (63 + 34 * b + 15), .ref (63 + 34 * b + 18), .int (((ndL (hoN H) b).2.2.1) + (nI (1))), .int ((ndL (hoN H) b).2.2.2)]))) := fun q hq => va_up_ne _ _ (fun e => by have r := hq.2.2.2.1; omega)
  have hg1 : (va_up M (63 + 34 * b) (.inr (6, [.int (nI b), .int (nI 1), .ref (63 + 34 * b + 1), .int (nI (ksN (ksq (ndL (hoN H) b).1 (hoQ H)))), .int (pvI (ksF (ksq (ndL (hoN H) b).1 (hoQ H)))), .ref (63 + 34 * b + 21), .ref (63 + 34 * b + 2), .ref (63 + 34 * b + 10), .ref (63 + 34 * b + 13), .ref (63 + 34 * b + 14), .ref (63 + 34 * b + 15), .ref (63 + 34 * b + 18), .int (((ndL (hoN H) b).2.2.1) + (nI (1))), .int ((ndL (hoN H) b).2.2.2)]))) 53 = .inl (1, 4000, .inl g) := (va_up_ne _ _ (by omega)).trans hg
  have h571 : (va_up M (63 + 34 * b) (.inr (6, [.int (nI b), .int (nI 1), .ref (63 + 34 * b + 1), .int (nI (ksN (ksq (ndL (hoN H) b).1 (hoQ H)))), .int (pvI (ksF (ksq (ndL (hoN H) b).1 (hoQ H)))), .ref (63 + 34 * b + 21), .ref (63 + 34 * b + 2), .ref (63 + 34 * b + 10), .ref (63 + 34 * b + 13), .ref (63 + 34 * b + 14), .ref (63 + 34 * b + 15), .ref (63 + 34 * b + 18), .int (((ndL (hoN H) b).2.2.1) + (nI (1))), .int ((ndL (hoN H) b).2.2.2)]))) 57 = .inl (1, 1280, .inl g57) := (va_up_ne _ _ (by omega)).trans h57
  generalize (va_up M (63 + 34 * b) (.inr (6, [.int (nI b), .int (nI 1), .ref (63 + 34 * b + 1), .int (nI (ksN (ksq (ndL (hoN H) b).1 (hoQ H)))), .int (pvI (ksF (ksq (ndL (hoN H) b).1 (hoQ H)))), .ref (63 + 34 * b + 21), .ref (63 + 34 * b + 2), .ref (63 + 34 * b + 10), .ref (63 + 34 * b + 13), .ref (63 + 34 * b + 14), .ref (63 + 34 * b + 15), .ref (63 + 34 * b + 18), .int (((ndL (hoN H) b).2.2.1) + (nI (1))), .int ((ndL (hoN H) b).2.2.2)]))) = M1 at *
  have hH1 := hk2.1
  have hml1 := hk2.2.2.2.2.2.2.2.2.2.1
  refine hz_aloadn (pc := 74) 4 (hz_dec kX11_tick 40 rfl) rfl ?_
  refine hz_get (pc := 75) (hz_dec kX11_tick 41 rfl) fo_X11_62 hH1 (by omega) (by omega) rfl ?_
  refine hz_get (pc := 78) (hz_dec kX11_tick 42 rfl) fo_X11_330 hml1.1 (by omega) (by omega) rfl ?_
  refine hz_iconst (pc := 81) (v := nI 5) (hz_dec kX11_tick 43 rfl) (by decide) ?_
  refine hz_n_ne (pc := 82) (tgt := 94) (hz_dec kX11_tick 44 rfl) (by decide) (by omega) (by omega) (fun h1 => ?_) (fun h1 => ?_)
  · skip
    refine hz_aloadn (pc := 94) 4 (hz_dec kX11_tick 49 rfl) rfl ?_
    refine hz_get (pc := 95) (hz_dec kX11_tick 50 rfl) fo_X11_62 hH1 (by omega) (by omega) rfl ?_
    refine hz_get (pc := 98) (hz_dec kX11_tick 51 rfl) fo_X11_330 hml1.1 (by omega) (by omega) rfl ?_
    refine hz_bipush (pc := 101) (v := nI 6) (hz_dec kX11_tick 52 rfl) (by decide) ?_
    refine hz_n_ne (pc := 103) (tgt := 115) (hz_dec kX11_tick 53 rfl) (by decide) (by omega) (by omega) (fun h2 => ?_) (fun h2 => ?_)
    · skip
      refine hz_aloadn (pc := 115) 4 (hz_dec kX11_tick 58 rfl) rfl ?_
      refine hz_aload (pc := 116) 1 (hz_dec kX11_tick 59 rfl) rfl ?_
      refine hz_callV (pc := 118) (a := 8) (As := [.ref (63 + 34 * b)]) (st := []) (hz_dec kX11_tick 60 rfl) co_X11_333 im_X11_hear se_X11_hear rfl hH1 (by omega) (by omega) (c_hear4 (by omega) (by omega) hnn hb hto hk2 hIq hl4 hg1 hA h571) rfl (by decide) ⟨Nat.le_refl _, Nat.le_refl _⟩ (Nat.le_of_ble_eq_true rfl) rfl (fun r9 z9 M2 hp9 => ?_)
      obtain ⟨rfl, rfl, hf2, hk3, h572⟩ := hp9
      have hf2x : frS [(9, 39), (45, 54), (57, 62), (63 + 34 * b, 63 + 34 * b + 34)] M1 M2 := hf2.mono (fun q (h9 : outS [(9, 39), (45, 54), (57, 62), (63 + 34 * b, 63 + 34 * b + 34)] q) => ⟨by have r := h9.1; omega, by have r := h9.1; omega, by have r := h9.1; omega, by have r := h9.2.1; omega, by have r := h9.2.2.1; omega, by have r := h9.2.2.2.1; omega, by have r := h9.2.2.2.1; omega, trivial⟩)
      have hf12 := hf1.tr hf2x
      have e1 : (arV H m).1 = ksq (ksq (ndL (hoN H) b).1 (hoQ H)) (hrQ (hoW H) b m.1 (hoD H (6 * b + a)) (ksq (ndL (hoN H) b).1 (hoQ H)) 4 m.2.2.2.2) := by rw [eV, rvS_h (by decide)]
      have e2 : (arV H m).2.1 = true := by rw [eV, rvS_h (by decide)]
      have e3 : (arV H m).2.2 = true ↔ hz_b (!rwO (rwU 4) m.2.2.2.2) = 1 := by rw [eV, rvS_h (by decide)]; exact hz_b_1
      obtain ⟨ll2, hk3⟩ : ∃ ll2, kcR M2 z (63 + 34 * b) (hoN H).length b (hoT H).length (hoE H) (hoW H) m.1 (nI 4) ((ndL (hoN H) b).2.2.1 + 1) (ndL (hoN H) b).2.2.2 (hz_b (arV H m).2.1) (hoD H) ll2 (arV H m).1 := ⟨m.2.2.2.2.length, by rw [e1, e2]; exact hk3⟩
      have hN2 := hk3.2.2.1
      refine hz_topi (pc := 121) (fun y1 ey1 => ?_)
      refine hz_istore (pc := 121) (i := 6) (lo2 := [(6, .int y1), (2, .int (nI (cc + 1))), (5, .ref (63 + 34 * b)), (4, .int (nI kk)), (3, .int (nI tt)), (0, .ref 8), (1, .int (nI nt))]) (hz_dec kX11_tick 61 rfl) (by decide) rfl ?_
      refine hz_iload (pc := 123) 0 (hz_dec kX11_tick 62 rfl) rfl ?_
      refine hz_iconst (pc := 125) (v := nI 1) (hz_dec kX11_tick 63 rfl) (by decide) ?_
      refine hz_icmp_ne (pc := 126) (tgt := 140) (hz_dec kX11_tick 64 rfl) (by decide) (fun hv => ?_) (fun hv => ?_)
      · skip
        have hv9 : ¬ hz_b (!rwO (rwU 4) m.2.2.2.2) = 1 := by first | exact hv | (rw [← ey1]; exact hv)
        have en : arN H m = ((arV H m).1, (arV H m).2.1, (ndL (hoN H) b).2.2.1 + 1, (ndL (hoN H) b).2.2.2) := by unfold arN; rw [hrb, if_neg (fun q => hv9 (e3.mp q))]
        refine hz_pick (pc := 140) [1, 3, 4, 5, 6] rfl ?_
        refine K M2 ll2 m.1 (nI 4) hf12 ?_
        unfold arS
        rw [hrb, en]
        exact hR.put hb hf12 (N := ((arV H m).1, (arV H m).2.1, (ndL (hoN H) b).2.2.1 + 1, (ndL (hoN H) b).2.2.2)) hk3 h572
      · skip
        have hv9 : hz_b (!rwO (rwU 4) m.2.2.2.2) = 1 := by first | exact hv | (rw [← ey1]; exact hv)
        have en : arN H m = ((arV H m).1, (arV H m).2.1, (ndL (hoN H) b).2.2.1 + 1, (ndL (hoN H) b).2.2.2 + 1) := by unfold arN; rw [hrb, if_pos (e3.mpr hv9)]
        refine hz_aload (pc := 129) 2 (hz_dec kX11_tick 65 rfl) rfl ?_
        refine hz_dup (pc := 131) (hz_dec kX11_tick 66 rfl) rfl ?_
        refine hz_get (pc := 132) (hz_dec kX11_tick 67 rfl) fo_X11_336 hN2 (by omega) (by omega) rfl ?_
        refine hz_iconst (pc := 135) (v := nI 1) (hz_dec kX11_tick 68 rfl) (by decide) ?_
        refine hz_iadd (pc := 136) (hz_dec kX11_tick 69 rfl) ?_
        refine hz_puti (pc := 137) (hz_dec kX11_tick 70 rfl) fo_X11_336 ft_X6_13 hN2 (by omega) (by omega) (Nat.le_of_ble_eq_true rfl) ?_
        refine hz_mem (pc := 140) (M2 := (va_up M2 (63 + 34 * b) (.inr (6, [.int (nI b), .int (hz_b (arV H m).2.1), .ref (63 + 34 * b + 1), .int (nI (ksN (arV H m).1)), .int (pvI (ksF (arV H m).1)), .ref (63 + 34 * b + 21), .ref (63 + 34 * b + 2), .ref (63 + 34 * b + 10), .ref (63 + 34 * b + 13), .ref (63 + 34 * b + 14), .ref (63 + 34 * b + 15), .ref (63 + 34 * b + 18), .int ((ndL (hoN H) b).2.2.1 + 1), .int (((ndL (hoN H) b).2.2.2) + (nI (1)))])))) rfl ?_
        have hk4 := hk3.nd (by omega) ((ndL (hoN H) b).2.2.1 + 1) ((ndL (hoN H) b).2.2.2 + 1)
        have hf4 : frS [(9, 39), (45, 54), (57, 62), (63 + 34 * b, 63 + 34 * b + 34)] M (va_up M2 (63 + 34 * b) (.inr (6, [.int (nI b), .int (hz_b (arV H m).2.1), .ref (63 + 34 * b + 1), .int (nI (ksN (arV H m).1)), .int (pvI (ksF (arV H m).1)), .ref (63 + 34 * b + 21), .ref (63 + 34 * b + 2), .ref (63 + 34 * b + 10), .ref (63 + 34 * b + 13), .ref (63 + 34 * b + 14), .ref (63 + 34 * b + 15), .ref (63 + 34 * b + 18), .int ((ndL (hoN H) b).2.2.1 + 1), .int (((ndL (hoN H) b).2.2.2) + (nI (1)))]))) := fun q hq => (va_up_ne _ _ (fun e => by have r := hq.2.2.2.1; omega)).trans (hf12 q hq)
        have h574 : ∃ g : Nat → Int32, (va_up M2 (63 + 34 * b) (.inr (6, [.int (nI b), .int (hz_b (arV H m).2.1), .ref (63 + 34 * b + 1), .int (nI (ksN (arV H m).1)), .int (pvI (ksF (arV H m).1)), .ref (63 + 34 * b + 21), .ref (63 + 34 * b + 2), .ref (63 + 34 * b + 10), .ref (63 + 34 * b + 13), .ref (63 + 34 * b + 14), .ref (63 + 34 * b + 15), .ref (63 + 34 * b + 18), .int ((ndL (hoN H) b).2.2.1 + 1), .int (((ndL (hoN H) b).2.2.2) + (nI (1)))]))) 57 = .inl (1, 1280, .inl g) := by obtain ⟨g9, q9⟩ := h572; exact ⟨g9, (va_up_ne _ _ (by omega)).trans q9⟩
        refine hz_pick (pc := 140) [1, 3, 4, 5, 6] rfl ?_
        refine K _ ll2 m.1 (nI 4) hf4 ?_
        unfold arS
        rw [hrb, en]
        exact hR.put hb hf4 (N := ((arV H m).1, (arV H m).2.1, (ndL (hoN H) b).2.2.1 + 1, (ndL (hoN H) b).2.2.2 + 1)) hk4 h574
    · skip
      exact absurd h2 (by decide)
  · skip
    exact absurd h1 (by decide)
set_option maxHeartbeats 4000000 in
set_option maxRecDepth 100000 in
theorem c_arr5 {κ : hz_C} {z : Nat} {M : hz_M} {H : ho_H} (hz : 63 + 34 * (hoN H).length ≤ z) (hnn : (hoN H).length ≤ 6) {m : ms_M} (hR : hcR M z H m.2.2.2.2.length m.1 (nI 5)) {g : Nat → Int32} (hg : M 53 = .inl (1, 4000, .inl g)) (hA : isA g 0 m.2.2.2.2) {a b : Nat} (ha : m.1 = nI a) (han : a < (hoN H).length) (hrb : rcvI m = b) (hb : b < (hoN H).length) (hkd : kdI m = 5) (hl4 : m.2.2.2.2.length ≤ 4000) (hup : (ndL (hoN H) b).2.1 = true) (hI : ksI (ndL (hoN H) b).1) {cc kk tt nt : Nat} {P : hz_P} (K : ∀ M2 ll2 fr2 kn2, frS [(9, 39), (45, 54), (57, 62), (63 + 34 * b, 63 + 34 * b + 34)] M M2 → hcR M2 z (arS H m) ll2 fr2 kn2 → hz_W κ xX11_tick 17 0 0 P 0 0 140 [(2, .int (nI (cc + 1))), (4, .int (nI kk)), (3, .int (nI tt)), (0, .ref 8), (1, .int (nI nt))] [] z M2) : hz_W κ xX11_tick 17 0 0 P 0 0 60 [(5, .ref (63 + 34 * b)), (2, .int (nI cc)), (4, .int (nI kk)), (3, .int (nI tt)), (0, .ref 8), (1, .int (nI nt))] [] z M := by
  have hk0 := hR.kc hb
  have hsd : sdI m = a := sdI_n ha (by omega)
  obtain ⟨g57, h57⟩ := hR.2.2.2.2.2.2.2.2.1
  have hk1 : kcR M z (63 + 34 * b) (hoN H).length b (hoT H).length (hoE H) (hoW H) m.1 (nI 5) (ndL (hoN H) b).2.2.1 (ndL (hoN H) b).2.2.2 (nI 1) (hoD H) m.2.2.2.2.length (ksq (ndL (hoN H) b).1 (hoQ H)) := by rw [hup] at hk0; exact hk0
  have hN := hk1.2.2.1
  have hH := hk1.1
  have hml := hk1.2.2.2.2.2.2.2.2.2.1
  have hto : (∃ c, c < (hoN H).length ∧ m.1 = nI c ∧ hoD H (6 * b + a) = hoD H (6 * b + c)) ∨ (m.1 < 0 ∧ hoD H (6 * b + a) = 0) := Or.inl ⟨a, han, ha, rfl⟩
  have hIq : ksI (ksq (ndL (hoN H) b).1 (hoQ H)) := ksq_I hI
  have eV : arV H m = rvS (hoN H).length (hoD H) (hoW H) b m.1 (hoD H (6 * b + a)) (ksq (ndL (hoN H) b).1 (hoQ H)) 5 m.2.2.2.2 := by unfold arV; rw [hrb, hsd, hkd]
  refine hz_incN (pc := 60) (i := 2) (lo2 := [(2, .int (nI (cc + 1))), (5, .ref (63 + 34 * b)), (4, .int (nI kk)), (3, .int (nI tt)), (0, .ref 8), (1, .int (nI nt))]) 1 (hz_dec kX11_tick 33 rfl) rfl (by decide) rfl ?_
  refine hz_aload (pc := 63) 1 (hz_dec kX11_tick 34 rfl) rfl ?_
  refine hz_dup (pc := 65) (hz_dec kX11_tick 35 rfl) rfl ?_
  refine hz_get (pc := 66) (hz_dec kX11_tick 36 rfl) fo_X11_327 hN (by omega) (by omega) rfl ?_
  refine hz_iconst (pc := 69) (v := nI 1) (hz_dec kX11_tick 37 rfl) (by decide) ?_
  refine hz_iadd (pc := 70) (hz_dec kX11_tick 38 rfl) ?_
  refine hz_puti (pc := 71) (hz_dec kX11_tick 39 rfl) fo_X11_327 ft_X6_12 hN (by omega) (by omega) (Nat.le_of_ble_eq_true rfl) ?_
  refine hz_mem (pc := 74) (M2 := (va_up M (63 + 34 * b) (.inr (6, [.int (nI b), .int (nI 1), .ref (63 + 34 * b + 1), .int (nI (ksN (ksq (ndL (hoN H) b).1 (hoQ H)))), .int (pvI (ksF (ksq (ndL (hoN H) b).1 (hoQ H)))), .ref (63 + 34 * b + 21), .ref (63 + 34 * b + 2), .ref (63 + 34 * b + 10), .ref (63 + 34 * b + 13), .ref (63 + 34 * b + 14), .ref (63 + 34 * b + 15), .ref (63 + 34 * b + 18), .int (((ndL (hoN H) b).2.2.1) + (nI (1))), .int ((ndL (hoN H) b).2.2.2)])))) rfl ?_
  have hk2 : kcR (va_up M (63 + 34 * b) (.inr (6, [.int (nI b), .int (nI 1), .ref (63 + 34 * b + 1), .int (nI (ksN (ksq (ndL (hoN H) b).1 (hoQ H)))), .int (pvI (ksF (ksq (ndL (hoN H) b).1 (hoQ H)))), .ref (63 + 34 * b + 21), .ref (63 + 34 * b + 2), .ref (63 + 34 * b + 10), .ref (63 + 34 * b + 13), .ref (63 + 34 * b + 14), .ref (63 + 34 * b + 15), .ref (63 + 34 * b + 18), .int (((ndL (hoN H) b).2.2.1) + (nI (1))), .int ((ndL (hoN H) b).2.2.2)]))) z (63 + 34 * b) (hoN H).length b (hoT H).length (hoE H) (hoW H) m.1 (nI 5) ((ndL (hoN H) b).2.2.1 + 1) (ndL (hoN H) b).2.2.2 (nI 1) (hoD H) m.2.2.2.2.length (ksq (ndL (hoN H) b).1 (hoQ H)) := hk1.nd (by omega) ((ndL (hoN H) b).2.2.1 + 1) (ndL (hoN H) b).2.2.2
  have hf1 : frS [(9, 39), (45, 54), (57, 62), (63 + 34 * b, 63 + 34 * b + 34)] M (va_up M (63 + 34 * b) (.inr (6, [.int (nI b), .int (nI 1), .ref (63 + 34 * b + 1), .int (nI (ksN (ksq (ndL (hoN H) b).1 (hoQ H)))), .int (pvI (ksF (ksq (ndL (hoN H) b).1 (hoQ H)))), .ref (63 + 34 * b + 21), .ref (63 + 34 * b + 2), .ref (63 + 34 * b + 10), .ref (63 + 34 * b + 13), .ref (63 + 34 * b + 14), .ref (63 + 34 * b + 15), .ref (63 + 34 * b + 18), .int (((ndL (hoN H) b).2.2.1) + (nI (1))), .int ((ndL (hoN H) b).2.2.2)]))) := fun q hq => va_up_ne _ _ (fun e => by have r := hq.2.2.2.1; omega)
  have hg1 : (va_up M (63 + 34 * b) (.inr (6, [.int (nI b), .int (nI 1), .ref (63 + 34 * b + 1), .int (nI (ksN (ksq (ndL (hoN H) b).1 (hoQ H)))), .int (pvI (ksF (ksq (ndL (hoN H) b).1 (hoQ H)))), .ref (63 + 34 * b + 21), .ref (63 + 34 * b + 2), .ref (63 + 34 * b + 10), .ref (63 + 34 * b + 13), .ref (63 + 34 * b + 14), .ref (63 + 34 * b + 15), .ref (63 + 34 * b + 18), .int (((ndL (hoN H) b).2.2.1) + (nI (1))), .int ((ndL (hoN H) b).2.2.2)]))) 53 = .inl (1, 4000, .inl g) := (va_up_ne _ _ (by omega)).trans hg
  have h571 : (va_up M (63 + 34 * b) (.inr (6, [.int (nI b), .int (nI 1), .ref (63 + 34 * b + 1), .int (nI (ksN (ksq (ndL (hoN H) b).1 (hoQ H)))), .int (pvI (ksF (ksq (ndL (hoN H) b).1 (hoQ H)))), .ref (63 + 34 * b + 21), .ref (63 + 34 * b + 2), .ref (63 + 34 * b + 10), .ref (63 + 34 * b + 13), .ref (63 + 34 * b + 14), .ref (63 + 34 * b + 15), .ref (63 + 34 * b + 18), .int (((ndL (hoN H) b).2.2.1) + (nI (1))), .int ((ndL (hoN H) b).2.2.2)]))) 57 = .inl (1, 1280, .inl g57) := (va_up_ne _ _ (by omega)).trans h57
  generalize (va_up M (63 + 34 * b) (.inr (6, [.int (nI b), .int (nI 1), .ref (63 + 34 * b + 1), .int (nI (ksN (ksq (ndL (hoN H) b).1 (hoQ H)))), .int (pvI (ksF (ksq (ndL (hoN H) b).1 (hoQ H)))), .ref (63 + 34 * b + 21), .ref (63 + 34 * b + 2), .ref (63 + 34 * b + 10), .ref (63 + 34 * b + 13), .ref (63 + 34 * b + 14), .ref (63 + 34 * b + 15), .ref (63 + 34 * b + 18), .int (((ndL (hoN H) b).2.2.1) + (nI (1))), .int ((ndL (hoN H) b).2.2.2)]))) = M1 at *
  have hH1 := hk2.1
  have hml1 := hk2.2.2.2.2.2.2.2.2.2.1
  refine hz_aloadn (pc := 74) 4 (hz_dec kX11_tick 40 rfl) rfl ?_
  refine hz_get (pc := 75) (hz_dec kX11_tick 41 rfl) fo_X11_62 hH1 (by omega) (by omega) rfl ?_
  refine hz_get (pc := 78) (hz_dec kX11_tick 42 rfl) fo_X11_330 hml1.1 (by omega) (by omega) rfl ?_
  refine hz_iconst (pc := 81) (v := nI 5) (hz_dec kX11_tick 43 rfl) (by decide) ?_
  refine hz_n_ne (pc := 82) (tgt := 94) (hz_dec kX11_tick 44 rfl) (by decide) (by omega) (by omega) (fun h1 => ?_) (fun h1 => ?_)
  · skip
    exact absurd rfl h1
  · skip
    refine hz_aloadn (pc := 85) 4 (hz_dec kX11_tick 45 rfl) rfl ?_
    refine hz_aload (pc := 86) 1 (hz_dec kX11_tick 46 rfl) rfl ?_
    refine hz_callV (pc := 88) (a := 8) (As := [.ref (63 + 34 * b)]) (st := []) (hz_dec kX11_tick 47 rfl) co_X11_302 im_X11_takeBlock se_X11_takeBlock rfl hH1 (by omega) (by omega) (c_tkBlk (by omega) (by omega) hnn hb hto hk2 hIq hl4 hg1 hA h571) rfl (by decide) ⟨Nat.le_refl _, Nat.le_refl _⟩ (Nat.le_of_ble_eq_true rfl) rfl (fun r9 z9 M2 hp9 => ?_)
    obtain ⟨rfl, rfl, hf2, ⟨ll2, hk3⟩, h572⟩ := hp9
    have hf2x : frS [(9, 39), (45, 54), (57, 62), (63 + 34 * b, 63 + 34 * b + 34)] M1 M2 := hf2
    have hf12 := hf1.tr hf2x
    have e1 : (arV H m).1 = (tkB (hoN H).length (hoD H) (hoW H) b m.1 (hoD H (6 * b + a)) (ksq (ndL (hoN H) b).1 (hoQ H)) m.2.2.2.2).1 := by rw [eV, rvS_5]
    have e2 : (arV H m).2.1 = (tkB (hoN H).length (hoD H) (hoW H) b m.1 (hoD H (6 * b + a)) (ksq (ndL (hoN H) b).1 (hoQ H)) m.2.2.2.2).2.1 := by rw [eV, rvS_5]
    have e3 : (arV H m).2.2 = true ↔ (tkB (hoN H).length (hoD H) (hoW H) b m.1 (hoD H (6 * b + a)) (ksq (ndL (hoN H) b).1 (hoQ H)) m.2.2.2.2).2.2 = 1 := by rw [eV, rvS_5, tkB_1 (by have r := ksJ_lt (ksq (ndL (hoN H) b).1 (hoQ H)) m.2.2.2.2; omega)]; exact decide_eq_true_iff
    rw [← e1, ← e2] at hk3
    have hN2 := hk3.2.2.1
    refine hz_goto (pc := 91) (tgt := 121) (hz_dec kX11_tick 48 rfl) (by decide) ?_
    refine hz_topi (pc := 121) (fun y1 ey1 => ?_)
    refine hz_istore (pc := 121) (i := 6) (lo2 := [(6, .int y1), (2, .int (nI (cc + 1))), (5, .ref (63 + 34 * b)), (4, .int (nI kk)), (3, .int (nI tt)), (0, .ref 8), (1, .int (nI nt))]) (hz_dec kX11_tick 61 rfl) (by decide) rfl ?_
    refine hz_iload (pc := 123) 0 (hz_dec kX11_tick 62 rfl) rfl ?_
    refine hz_iconst (pc := 125) (v := nI 1) (hz_dec kX11_tick 63 rfl) (by decide) ?_
    refine hz_icmp_ne (pc := 126) (tgt := 140) (hz_dec kX11_tick 64 rfl) (by decide) (fun hv => ?_) (fun hv => ?_)
    · skip
      have hv9 : ¬ (tkB (hoN H).length (hoD H) (hoW H) b m.1 (hoD H (6 * b + a)) (ksq (ndL (hoN H) b).1 (hoQ H)) m.2.2.2.2).2.2 = 1 := by first | exact hv | (rw [← ey1]; exact hv)
      have en : arN H m = ((arV H m).1, (arV H m).2.1, (ndL (hoN H) b).2.2.1 + 1, (ndL (hoN H) b).2.2.2) := by unfold arN; rw [hrb, if_neg (fun q => hv9 (e3.mp q))]
      refine hz_pick (pc := 140) [1, 3, 4, 5, 6] rfl ?_
      refine K M2 ll2 m.1 (nI 5) hf12 ?_
      unfold arS
      rw [hrb, en]
      exact hR.put hb hf12 (N := ((arV H m).1, (arV H m).2.1, (ndL (hoN H) b).2.2.1 + 1, (ndL (hoN H) b).2.2.2)) hk3 h572
    · skip
      have hv9 : (tkB (hoN H).length (hoD H) (hoW H) b m.1 (hoD H (6 * b + a)) (ksq (ndL (hoN H) b).1 (hoQ H)) m.2.2.2.2).2.2 = 1 := by first | exact hv | (rw [← ey1]; exact hv)
      have en : arN H m = ((arV H m).1, (arV H m).2.1, (ndL (hoN H) b).2.2.1 + 1, (ndL (hoN H) b).2.2.2 + 1) := by unfold arN; rw [hrb, if_pos (e3.mpr hv9)]
      refine hz_aload (pc := 129) 2 (hz_dec kX11_tick 65 rfl) rfl ?_
      refine hz_dup (pc := 131) (hz_dec kX11_tick 66 rfl) rfl ?_
      refine hz_get (pc := 132) (hz_dec kX11_tick 67 rfl) fo_X11_336 hN2 (by omega) (by omega) rfl ?_
      refine hz_iconst (pc := 135) (v := nI 1) (hz_dec kX11_tick 68 rfl) (by decide) ?_
      refine hz_iadd (pc := 136) (hz_dec kX11_tick 69 rfl) ?_
      refine hz_puti (pc := 137) (hz_dec kX11_tick 70 rfl) fo_X11_336 ft_X6_13 hN2 (by omega) (by omega) (Nat.le_of_ble_eq_true rfl) ?_
      refine hz_mem (pc := 140) (M2 := (va_up M2 (63 + 34 * b) (.inr (6, [.int (nI b), .int (hz_b (arV H m).2.1), .ref (63 + 34 * b + 1), .int (nI (ksN (arV H m).1)), .int (pvI (ksF (arV H m).1)), .ref (63 + 34 * b + 21), .ref (63 + 34 * b + 2), .ref (63 + 34 * b + 10), .ref (63 + 34 * b + 13), .ref (63 + 34 * b + 14), .ref (63 + 34 * b + 15), .ref (63 + 34 * b + 18), .int ((ndL (hoN H) b).2.2.1 + 1), .int (((ndL (hoN H) b).2.2.2) + (nI (1)))])))) rfl ?_
      have hk4 := hk3.nd (by omega) ((ndL (hoN H) b).2.2.1 + 1) ((ndL (hoN H) b).2.2.2 + 1)
      have hf4 : frS [(9, 39), (45, 54), (57, 62), (63 + 34 * b, 63 + 34 * b + 34)] M (va_up M2 (63 + 34 * b) (.inr (6, [.int (nI b), .int (hz_b (arV H m).2.1), .ref (63 + 34 * b + 1), .int (nI (ksN (arV H m).1)), .int (pvI (ksF (arV H m).1)), .ref (63 + 34 * b + 21), .ref (63 + 34 * b + 2), .ref (63 + 34 * b + 10), .ref (63 + 34 * b + 13), .ref (63 + 34 * b + 14), .ref (63 + 34 * b + 15), .ref (63 + 34 * b + 18), .int ((ndL (hoN H) b).2.2.1 + 1), .int (((ndL (hoN H) b).2.2.2) + (nI (1)))]))) := fun q hq => (va_up_ne _ _ (fun e => by have r := hq.2.2.2.1; omega)).trans (hf12 q hq)
      have h574 : ∃ g : Nat → Int32, (va_up M2 (63 + 34 * b) (.inr (6, [.int (nI b), .int (hz_b (arV H m).2.1), .ref (63 + 34 * b + 1), .int (nI (ksN (arV H m).1)), .int (pvI (ksF (arV H m).1)), .ref (63 + 34 * b + 21), .ref (63 + 34 * b + 2), .ref (63 + 34 * b + 10), .ref (63 + 34 * b + 13), .ref (63 + 34 * b + 14), .ref (63 + 34 * b + 15), .ref (63 + 34 * b + 18), .int ((ndL (hoN H) b).2.2.1 + 1), .int (((ndL (hoN H) b).2.2.2) + (nI (1)))]))) 57 = .inl (1, 1280, .inl g) := by obtain ⟨g9, q9⟩ := h572; exact ⟨g9, (va_up_ne _ _ (by omega)).trans q9⟩
      refine hz_pick (pc := 140) [1, 3, 4, 5, 6] rfl ?_
      refine K _ ll2 m.1 (nI 5) hf4 ?_
      unfold arS
      rw [hrb, en]
      exact hR.put hb hf4 (N := ((arV H m).1, (arV H m).2.1, (ndL (hoN H) b).2.2.1 + 1, (ndL (hoN H) b).2.2.2 + 1)) hk4 h574
set_option maxHeartbeats 4000000 in
set_option maxRecDepth 100000 in
theorem c_arr6 {κ : hz_C} {z : Nat} {M : hz_M} {H : ho_H} (hz : 63 + 34 * (hoN H).length ≤ z) (hnn : (hoN H).length ≤ 6) {m : ms_M} (hR : hcR M z H m.2.2.2.2.length m.1 (nI 6)) {g : Nat → Int32} (hg : M 53 = .inl (1, 4000, .inl g)) (hA : isA g 0 m.2.2.2.2) {a b : Nat} (ha : m.1 = nI a) (han : a < (hoN H).length) (hrb : rcvI m = b) (hb : b < (hoN H).length) (hkd : kdI m = 6) (hl4 : m.2.2.2.2.length ≤ 4000) (hup : (ndL (hoN H) b).2.1 = true) (hI : ksI (ndL (hoN H) b).1) {cc kk tt nt : Nat} {P : hz_P} (K : ∀ M2 ll2 fr2 kn2, frS [(9, 39), (45, 54), (57, 62), (63 + 34 * b, 63 + 34 * b + 34)] M M2 → hcR M2 z (arS H m) ll2 fr2 kn2 → hz_W κ xX11_tick 17 0 0 P 0 0 140 [(2, .int (nI (cc + 1))), (4, .int (nI kk)), (3, .int (nI tt)), (0, .ref 8), (1, .int (nI nt))] [] z M2) : hz_W κ xX11_tick 17 0 0 P 0 0 60 [(5, .ref (63 + 34 * b)), (2, .int (nI cc)), (4, .int (nI kk)), (3, .int (nI tt)), (0, .ref 8), (1, .int (nI nt))] [] z M := by
  have hk0 := hR.kc hb
  have hsd : sdI m = a := sdI_n ha (by omega)
  obtain ⟨g57, h57⟩ := hR.2.2.2.2.2.2.2.2.1
  have hk1 : kcR M z (63 + 34 * b) (hoN H).length b (hoT H).length (hoE H) (hoW H) m.1 (nI 6) (ndL (hoN H) b).2.2.1 (ndL (hoN H) b).2.2.2 (nI 1) (hoD H) m.2.2.2.2.length (ksq (ndL (hoN H) b).1 (hoQ H)) := by rw [hup] at hk0; exact hk0
  have hN := hk1.2.2.1
  have hH := hk1.1
  have hml := hk1.2.2.2.2.2.2.2.2.2.1
  have hto : (∃ c, c < (hoN H).length ∧ m.1 = nI c ∧ hoD H (6 * b + a) = hoD H (6 * b + c)) ∨ (m.1 < 0 ∧ hoD H (6 * b + a) = 0) := Or.inl ⟨a, han, ha, rfl⟩
  have hIq : ksI (ksq (ndL (hoN H) b).1 (hoQ H)) := ksq_I hI
  have eV : arV H m = rvS (hoN H).length (hoD H) (hoW H) b m.1 (hoD H (6 * b + a)) (ksq (ndL (hoN H) b).1 (hoQ H)) 6 m.2.2.2.2 := by unfold arV; rw [hrb, hsd, hkd]
  refine hz_incN (pc := 60) (i := 2) (lo2 := [(2, .int (nI (cc + 1))), (5, .ref (63 + 34 * b)), (4, .int (nI kk)), (3, .int (nI tt)), (0, .ref 8), (1, .int (nI nt))]) 1 (hz_dec kX11_tick 33 rfl) rfl (by decide) rfl ?_
  refine hz_aload (pc := 63) 1 (hz_dec kX11_tick 34 rfl) rfl ?_
  refine hz_dup (pc := 65) (hz_dec kX11_tick 35 rfl) rfl ?_
  refine hz_get (pc := 66) (hz_dec kX11_tick 36 rfl) fo_X11_327 hN (by omega) (by omega) rfl ?_
  refine hz_iconst (pc := 69) (v := nI 1) (hz_dec kX11_tick 37 rfl) (by decide) ?_
  refine hz_iadd (pc := 70) (hz_dec kX11_tick 38 rfl) ?_
  refine hz_puti (pc := 71) (hz_dec kX11_tick 39 rfl) fo_X11_327 ft_X6_12 hN (by omega) (by omega) (Nat.le_of_ble_eq_true rfl) ?_
  refine hz_mem (pc := 74) (M2 := (va_up M (63 + 34 * b) (.inr (6, [.int (nI b), .int (nI 1), .ref (63 + 34 * b + 1), .int (nI (ksN (ksq (ndL (hoN H) b).1 (hoQ H)))), .int (pvI (ksF (ksq (ndL (hoN H) b).1 (hoQ H)))), .ref (63 + 34 * b + 21), .ref (63 + 34 * b + 2), .ref (63 + 34 * b + 10), .ref (63 + 34 * b + 13), .ref (63 + 34 * b + 14), .ref (63 + 34 * b + 15), .ref (63 + 34 * b + 18), .int (((ndL (hoN H) b).2.2.1) + (nI (1))), .int ((ndL (hoN H) b).2.2.2)])))) rfl ?_
  have hk2 : kcR (va_up M (63 + 34 * b) (.inr (6, [.int (nI b), .int (nI 1), .ref (63 + 34 * b + 1), .int (nI (ksN (ksq (ndL (hoN H) b).1 (hoQ H)))), .int (pvI (ksF (ksq (ndL (hoN H) b).1 (hoQ H)))), .ref (63 + 34 * b + 21), .ref (63 + 34 * b + 2), .ref (63 + 34 * b + 10), .ref (63 + 34 * b + 13), .ref (63 + 34 * b + 14), .ref (63 + 34 * b + 15), .ref (63 + 34 * b + 18), .int (((ndL (hoN H) b).2.2.1) + (nI (1))), .int ((ndL (hoN H) b).2.2.2)]))) z (63 + 34 * b) (hoN H).length b (hoT H).length (hoE H) (hoW H) m.1 (nI 6) ((ndL (hoN H) b).2.2.1 + 1) (ndL (hoN H) b).2.2.2 (nI 1) (hoD H) m.2.2.2.2.length (ksq (ndL (hoN H) b).1 (hoQ H)) := hk1.nd (by omega) ((ndL (hoN H) b).2.2.1 + 1) (ndL (hoN H) b).2.2.2
  have hf1 : frS [(9, 39), (45, 54), (57, 62), (63 + 34 * b, 63 + 34 * b + 34)] M (va_up M (63 + 34 * b) (.inr (6, [.int (nI b), .int (nI 1), .ref (63 + 34 * b + 1), .int (nI (ksN (ksq (ndL (hoN H) b).1 (hoQ H)))), .int (pvI (ksF (ksq (ndL (hoN H) b).1 (hoQ H)))), .ref (63 + 34 * b + 21), .ref (63 + 34 * b + 2), .ref (63 + 34 * b + 10), .ref (63 + 34 * b + 13), .ref (63 + 34 * b + 14), .ref (63 + 34 * b + 15), .ref (63 + 34 * b + 18), .int (((ndL (hoN H) b).2.2.1) + (nI (1))), .int ((ndL (hoN H) b).2.2.2)]))) := fun q hq => va_up_ne _ _ (fun e => by have r := hq.2.2.2.1; omega)
  have hg1 : (va_up M (63 + 34 * b) (.inr (6, [.int (nI b), .int (nI 1), .ref (63 + 34 * b + 1), .int (nI (ksN (ksq (ndL (hoN H) b).1 (hoQ H)))), .int (pvI (ksF (ksq (ndL (hoN H) b).1 (hoQ H)))), .ref (63 + 34 * b + 21), .ref (63 + 34 * b + 2), .ref (63 + 34 * b + 10), .ref (63 + 34 * b + 13), .ref (63 + 34 * b + 14), .ref (63 + 34 * b + 15), .ref (63 + 34 * b + 18), .int (((ndL (hoN H) b).2.2.1) + (nI (1))), .int ((ndL (hoN H) b).2.2.2)]))) 53 = .inl (1, 4000, .inl g) := (va_up_ne _ _ (by omega)).trans hg
  have h571 : (va_up M (63 + 34 * b) (.inr (6, [.int (nI b), .int (nI 1), .ref (63 + 34 * b + 1), .int (nI (ksN (ksq (ndL (hoN H) b).1 (hoQ H)))), .int (pvI (ksF (ksq (ndL (hoN H) b).1 (hoQ H)))), .ref (63 + 34 * b + 21), .ref (63 + 34 * b + 2), .ref (63 + 34 * b + 10), .ref (63 + 34 * b + 13), .ref (63 + 34 * b + 14), .ref (63 + 34 * b + 15), .ref (63 + 34 * b + 18), .int (((ndL (hoN H) b).2.2.1) + (nI (1))), .int ((ndL (hoN H) b).2.2.2)]))) 57 = .inl (1, 1280, .inl g57) := (va_up_ne _ _ (by omega)).trans h57
  generalize (va_up M (63 + 34 * b) (.inr (6, [.int (nI b), .int (nI 1), .ref (63 + 34 * b + 1), .int (nI (ksN (ksq (ndL (hoN H) b).1 (hoQ H)))), .int (pvI (ksF (ksq (ndL (hoN H) b).1 (hoQ H)))), .ref (63 + 34 * b + 21), .ref (63 + 34 * b + 2), .ref (63 + 34 * b + 10), .ref (63 + 34 * b + 13), .ref (63 + 34 * b + 14), .ref (63 + 34 * b + 15), .ref (63 + 34 * b + 18), .int (((ndL (hoN H) b).2.2.1) + (nI (1))), .int ((ndL (hoN H) b).2.2.2)]))) = M1 at *
  have hH1 := hk2.1
  have hml1 := hk2.2.2.2.2.2.2.2.2.2.1
  refine hz_aloadn (pc := 74) 4 (hz_dec kX11_tick 40 rfl) rfl ?_
  refine hz_get (pc := 75) (hz_dec kX11_tick 41 rfl) fo_X11_62 hH1 (by omega) (by omega) rfl ?_
  refine hz_get (pc := 78) (hz_dec kX11_tick 42 rfl) fo_X11_330 hml1.1 (by omega) (by omega) rfl ?_
  refine hz_iconst (pc := 81) (v := nI 5) (hz_dec kX11_tick 43 rfl) (by decide) ?_
  refine hz_n_ne (pc := 82) (tgt := 94) (hz_dec kX11_tick 44 rfl) (by decide) (by omega) (by omega) (fun h1 => ?_) (fun h1 => ?_)
  · skip
    refine hz_aloadn (pc := 94) 4 (hz_dec kX11_tick 49 rfl) rfl ?_
    refine hz_get (pc := 95) (hz_dec kX11_tick 50 rfl) fo_X11_62 hH1 (by omega) (by omega) rfl ?_
    refine hz_get (pc := 98) (hz_dec kX11_tick 51 rfl) fo_X11_330 hml1.1 (by omega) (by omega) rfl ?_
    refine hz_bipush (pc := 101) (v := nI 6) (hz_dec kX11_tick 52 rfl) (by decide) ?_
    refine hz_n_ne (pc := 103) (tgt := 115) (hz_dec kX11_tick 53 rfl) (by decide) (by omega) (by omega) (fun h2 => ?_) (fun h2 => ?_)
    · skip
      exact absurd rfl h2
    · skip
      refine hz_aloadn (pc := 106) 4 (hz_dec kX11_tick 54 rfl) rfl ?_
      refine hz_aload (pc := 107) 1 (hz_dec kX11_tick 55 rfl) rfl ?_
      refine hz_callV (pc := 109) (a := 8) (As := [.ref (63 + 34 * b)]) (st := []) (hz_dec kX11_tick 56 rfl) co_X11_306 im_X11_takeTransaction se_X11_takeTransaction rfl hH1 (by omega) (by omega) (c_tkTx (by omega) (by omega) hnn hb hto hk2 hIq hl4 hg1 hA h571) rfl (by decide) ⟨Nat.le_refl _, Nat.le_refl _⟩ (Nat.le_of_ble_eq_true rfl) rfl (fun r9 z9 M2 hp9 => ?_)
      obtain ⟨rfl, rfl, hf2, hk3⟩ := hp9
      have hf2x : frS [(9, 39), (45, 54), (57, 62), (63 + 34 * b, 63 + 34 * b + 34)] M1 M2 := hf2.mono (fun q (h9 : outS [(9, 39), (45, 54), (57, 62), (63 + 34 * b, 63 + 34 * b + 34)] q) => ⟨h9.1, h9.2.1, by have r := h9.2.2.1; omega, h9.2.2.2.1, trivial⟩)
      have hf12 := hf1.tr hf2x
      have e1 : (arV H m).1 = tkT (hoN H).length (hoD H) (hoW H) b m.1 (ksq (ndL (hoN H) b).1 (hoQ H)) m.2.2.2.2 := by rw [eV, rvS_6]
      have e2 : (arV H m).2.1 = true := by rw [eV, rvS_6]
      have e3 : (arV H m).2.2 = true ↔ nI (ksV (ksq (ndL (hoN H) b).1 (hoQ H)) m.2.2.2.2) = 1 := by rw [eV, rvS_6]; exact decide_eq_true_iff.trans (nIeq1 (by have r := ksV_lt (ksq (ndL (hoN H) b).1 (hoQ H)) m.2.2.2.2; omega)).symm
      obtain ⟨ll2, hk3⟩ : ∃ ll2, kcR M2 z (63 + 34 * b) (hoN H).length b (hoT H).length (hoE H) (hoW H) m.1 (nI 6) ((ndL (hoN H) b).2.2.1 + 1) (ndL (hoN H) b).2.2.2 (hz_b (arV H m).2.1) (hoD H) ll2 (arV H m).1 := ⟨m.2.2.2.2.length, by rw [e1, e2]; exact hk3⟩
      have h572 : ∃ g : Nat → Int32, M2 57 = .inl (1, 1280, .inl g) := ⟨g57, (hf2.at4 (by omega)).trans h571⟩
      have hN2 := hk3.2.2.1
      refine hz_goto (pc := 112) (tgt := 121) (hz_dec kX11_tick 57 rfl) (by decide) ?_
      refine hz_topi (pc := 121) (fun y1 ey1 => ?_)
      refine hz_istore (pc := 121) (i := 6) (lo2 := [(6, .int y1), (2, .int (nI (cc + 1))), (5, .ref (63 + 34 * b)), (4, .int (nI kk)), (3, .int (nI tt)), (0, .ref 8), (1, .int (nI nt))]) (hz_dec kX11_tick 61 rfl) (by decide) rfl ?_
      refine hz_iload (pc := 123) 0 (hz_dec kX11_tick 62 rfl) rfl ?_
      refine hz_iconst (pc := 125) (v := nI 1) (hz_dec kX11_tick 63 rfl) (by decide) ?_
      refine hz_icmp_ne (pc := 126) (tgt := 140) (hz_dec kX11_tick 64 rfl) (by decide) (fun hv => ?_) (fun hv => ?_)
      · skip
        have hv9 : ¬ nI (ksV (ksq (ndL (hoN H) b).1 (hoQ H)) m.2.2.2.2) = 1 := by first | exact hv | (rw [← ey1]; exact hv)
        have en : arN H m = ((arV H m).1, (arV H m).2.1, (ndL (hoN H) b).2.2.1 + 1, (ndL (hoN H) b).2.2.2) := by unfold arN; rw [hrb, if_neg (fun q => hv9 (e3.mp q))]
        refine hz_pick (pc := 140) [1, 3, 4, 5, 6] rfl ?_
        refine K M2 ll2 m.1 (nI 6) hf12 ?_
        unfold arS
        rw [hrb, en]
        exact hR.put hb hf12 (N := ((arV H m).1, (arV H m).2.1, (ndL (hoN H) b).2.2.1 + 1, (ndL (hoN H) b).2.2.2)) hk3 h572
      · skip
        have hv9 : nI (ksV (ksq (ndL (hoN H) b).1 (hoQ H)) m.2.2.2.2) = 1 := by first | exact hv | (rw [← ey1]; exact hv)
        have en : arN H m = ((arV H m).1, (arV H m).2.1, (ndL (hoN H) b).2.2.1 + 1, (ndL (hoN H) b).2.2.2 + 1) := by unfold arN; rw [hrb, if_pos (e3.mpr hv9)]
        refine hz_aload (pc := 129) 2 (hz_dec kX11_tick 65 rfl) rfl ?_
        refine hz_dup (pc := 131) (hz_dec kX11_tick 66 rfl) rfl ?_
        refine hz_get (pc := 132) (hz_dec kX11_tick 67 rfl) fo_X11_336 hN2 (by omega) (by omega) rfl ?_
        refine hz_iconst (pc := 135) (v := nI 1) (hz_dec kX11_tick 68 rfl) (by decide) ?_
        refine hz_iadd (pc := 136) (hz_dec kX11_tick 69 rfl) ?_
        refine hz_puti (pc := 137) (hz_dec kX11_tick 70 rfl) fo_X11_336 ft_X6_13 hN2 (by omega) (by omega) (Nat.le_of_ble_eq_true rfl) ?_
        refine hz_mem (pc := 140) (M2 := (va_up M2 (63 + 34 * b) (.inr (6, [.int (nI b), .int (hz_b (arV H m).2.1), .ref (63 + 34 * b + 1), .int (nI (ksN (arV H m).1)), .int (pvI (ksF (arV H m).1)), .ref (63 + 34 * b + 21), .ref (63 + 34 * b + 2), .ref (63 + 34 * b + 10), .ref (63 + 34 * b + 13), .ref (63 + 34 * b + 14), .ref (63 + 34 * b + 15), .ref (63 + 34 * b + 18), .int ((ndL (hoN H) b).2.2.1 + 1), .int (((ndL (hoN H) b).2.2.2) + (nI (1)))])))) rfl ?_
        have hk4 := hk3.nd (by omega) ((ndL (hoN H) b).2.2.1 + 1) ((ndL (hoN H) b).2.2.2 + 1)
        have hf4 : frS [(9, 39), (45, 54), (57, 62), (63 + 34 * b, 63 + 34 * b + 34)] M (va_up M2 (63 + 34 * b) (.inr (6, [.int (nI b), .int (hz_b (arV H m).2.1), .ref (63 + 34 * b + 1), .int (nI (ksN (arV H m).1)), .int (pvI (ksF (arV H m).1)), .ref (63 + 34 * b + 21), .ref (63 + 34 * b + 2), .ref (63 + 34 * b + 10), .ref (63 + 34 * b + 13), .ref (63 + 34 * b + 14), .ref (63 + 34 * b + 15), .ref (63 + 34 * b + 18), .int ((ndL (hoN H) b).2.2.1 + 1), .int (((ndL (hoN H) b).2.2.2) + (nI (1)))]))) := fun q hq => (va_up_ne _ _ (fun e => by have r := hq.2.2.2.1; omega)).trans (hf12 q hq)
        have h574 : ∃ g : Nat → Int32, (va_up M2 (63 + 34 * b) (.inr (6, [.int (nI b), .int (hz_b (arV H m).2.1), .ref (63 + 34 * b + 1), .int (nI (ksN (arV H m).1)), .int (pvI (ksF (arV H m).1)), .ref (63 + 34 * b + 21), .ref (63 + 34 * b + 2), .ref (63 + 34 * b + 10), .ref (63 + 34 * b + 13), .ref (63 + 34 * b + 14), .ref (63 + 34 * b + 15), .ref (63 + 34 * b + 18), .int ((ndL (hoN H) b).2.2.1 + 1), .int (((ndL (hoN H) b).2.2.2) + (nI (1)))]))) 57 = .inl (1, 1280, .inl g) := by obtain ⟨g9, q9⟩ := h572; exact ⟨g9, (va_up_ne _ _ (by omega)).trans q9⟩
        refine hz_pick (pc := 140) [1, 3, 4, 5, 6] rfl ?_
        refine K _ ll2 m.1 (nI 6) hf4 ?_
        unfold arS
        rw [hrb, en]
        exact hR.put hb hf4 (N := ((arV H m).1, (arV H m).2.1, (ndL (hoN H) b).2.2.1 + 1, (ndL (hoN H) b).2.2.2 + 1)) hk4 h574
  · skip
    exact absurd h1 (by decide)
