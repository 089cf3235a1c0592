/-! assemble: the class, whole -/
theorem byl_0 (j : Nat) : sb_b (byl 0 j) = 0 := by
  unfold byl
  rw [show uL 0 = 0 from rfl, Nat.zero_div]
  rfl
theorem put_81 {g : Nat → Int32} : bn_put 81 2 1 g 81 = 0 ∧ bn_put 81 2 1 g 82 = 1 := by
  have q0 := bn_put_in (at_ := 81) 2 1 g 0 (by decide) (by decide)
  have q1 := bn_put_in (at_ := 81) 2 1 g 1 (by decide) (by decide)
  exact ⟨q0.trans (by decide), q1.trans (by decide)⟩
theorem asG_f {N : nd_N} {tm : Int32} {g : Nat → Int32} {am ad : Int64} (hG : asG N tm g) (h80 : g 80 = bI (nI (cgN (ksP N.1) + 1))) {ht : Nat} : ∀ j, j < 103 → ¬ (32 ≤ j ∧ j < 64) → bn_put (81 + 14) 8 ad (bn_put (81 + 6) 8 am (bn_put (81 + 2) 4 (nI ht).toInt64 (bn_put 81 2 1 g))) j = asH (haS (bBy (ksB N.1) (ksT N.1))) tm (dueE (enB (ksB N.1)) (ksT N.1)) (cgN (ksP N.1)) ht am ad j := by
  intro j hj hn
  have o1 : j < 95 → bn_put (81 + 14) 8 ad (bn_put (81 + 6) 8 am (bn_put (81 + 2) 4 (nI ht).toInt64 (bn_put 81 2 1 g))) j = bn_put (81 + 6) 8 am (bn_put (81 + 2) 4 (nI ht).toInt64 (bn_put 81 2 1 g)) j := fun h => bn_put_out _ _ _ _ (by omega)
  have o2 : j < 87 → bn_put (81 + 6) 8 am (bn_put (81 + 2) 4 (nI ht).toInt64 (bn_put 81 2 1 g)) j = bn_put (81 + 2) 4 (nI ht).toInt64 (bn_put 81 2 1 g) j := fun h => bn_put_out _ _ _ _ (by omega)
  have o3 : j < 83 → bn_put (81 + 2) 4 (nI ht).toInt64 (bn_put 81 2 1 g) j = bn_put 81 2 1 g j := fun h => bn_put_out _ _ _ _ (by omega)
  have o4 : j < 81 → bn_put 81 2 1 g j = g j := fun h => bn_put_out _ _ _ _ (by omega)
  unfold asH
  rcases (show j < 32 ∨ (64 ≤ j ∧ j < 68) ∨ (68 ≤ j ∧ j < 72) ∨ (72 ≤ j ∧ j < 80) ∨ j = 80 ∨ j = 81 ∨ j = 82 ∨ (83 ≤ j ∧ j < 87) ∨ (87 ≤ j ∧ j < 95) ∨ 95 ≤ j by omega) with c | c | c | c | c | c | c | c | c | c
  · rw [o1 (by omega), o2 (by omega), o3 (by omega), o4 (by omega), if_pos c]; exact hG.1 j c
  · rw [o1 (by omega), o2 (by omega), o3 (by omega), o4 (by omega), if_neg (by omega), if_neg (by omega), if_pos c.2]
    have q := hG.2.1 (j - 64) (by omega)
    rw [show 64 + (j - 64) = j by omega] at q
    exact q
  · rw [o1 (by omega), o2 (by omega), o3 (by omega), o4 (by omega), if_neg (by omega), if_neg (by omega), if_neg (by omega), if_pos c.2]
    have q := hG.2.2.1 (j - 68) (by omega)
    rw [show 68 + (j - 68) = j by omega] at q
    exact q
  · rw [o1 (by omega), o2 (by omega), o3 (by omega), o4 (by omega), if_neg (by omega), if_neg (by omega), if_neg (by omega), if_neg (by omega), if_pos c.2]
    have q := hG.2.2.2 (j - 72) (by omega)
    rw [show 72 + (j - 72) = j by omega] at q
    exact q
  · rw [o1 (by omega), o2 (by omega), o3 (by omega), o4 (by omega), if_neg (by omega), if_neg (by omega), if_neg (by omega), if_neg (by omega), if_neg (by omega), if_pos c, c]; exact h80
  · rw [o1 (by omega), o2 (by omega), o3 (by omega), if_neg (by omega), if_neg (by omega), if_neg (by omega), if_neg (by omega), if_neg (by omega), if_neg (by omega), if_pos c, c]; exact put_81.1
  · rw [o1 (by omega), o2 (by omega), o3 (by omega), if_neg (by omega), if_neg (by omega), if_neg (by omega), if_neg (by omega), if_neg (by omega), if_neg (by omega), if_neg (by omega), if_pos c, c]; exact put_81.2
  · rw [o1 (by omega), o2 (by omega), if_neg (by omega), if_neg (by omega), if_neg (by omega), if_neg (by omega), if_neg (by omega), if_neg (by omega), if_neg (by omega), if_neg (by omega), if_pos c.2]
    have q := bn_put_i (at_ := 81 + 2) (v := nI ht) (f := bn_put 81 2 1 g) (j := j - 83) (by omega)
    rw [show 81 + 2 + (j - 83) = j by omega] at q
    exact q
  · rw [o1 (by omega), if_neg (by omega), if_neg (by omega), if_neg (by omega), if_neg (by omega), if_neg (by omega), if_neg (by omega), if_neg (by omega), if_neg (by omega), if_neg (by omega), if_pos c.2]
    have q := bn_put_l (at_ := 81 + 6) (v := am) (f := bn_put (81 + 2) 4 (nI ht).toInt64 (bn_put 81 2 1 g)) (j := j - 87) (by omega)
    rw [show 81 + 6 + (j - 87) = j by omega] at q
    exact q
  · rw [if_neg (by omega), if_neg (by omega), if_neg (by omega), if_neg (by omega), if_neg (by omega), if_neg (by omega), if_neg (by omega), if_neg (by omega), if_neg (by omega), if_neg (by omega)]
    have q := bn_put_l (at_ := 81 + 14) (v := ad) (f := bn_put (81 + 6) 8 am (bn_put (81 + 2) 4 (nI ht).toInt64 (bn_put 81 2 1 g))) (j := j - 95) (by omega)
    rw [show 81 + 14 + (j - 95) = j by omega] at q
    exact q
theorem tm_nn {m t : Int32} (hm : ¬ m < 0) (h : m < t) : ¬ t < 0 := by
  rw [Int32.lt_iff_toInt_lt] at *
  omega
set_option maxHeartbeats 4000000 in
set_option maxRecDepth 100000 in
theorem c_asmB {κ : hz_C} {z : Nat} {M : hz_M} {H : ho_H} (hz : 63 + 34 * (hoN H).length ≤ z) (hnn : (hoN H).length ≤ 6) (hT4 : (hoT H).length ≤ 4000) {ll : Nat} {fr kn : Int32} (hR : hcR M z H ll fr kn) {v : Nat} (hv : v < (hoN H).length) {N : nd_N} (hN : ndL (hoN H) v = N) (hup : N.2.1 = true) (hI : ksI N.1) {sd : Int64} {tm : Int32} (htm : ¬ midE (enB (ksB N.1)) (ksT N.1) < tm) : hz_Mt κ xX11_assemble 6 0 0 [.ref 8, .int (nI v), .long sd, .int tm] z M (hcP M z H (.int (-1)) H) := by
  refine hz_ent (lo := [(0, .ref 8), (1, .int (nI v)), (2, .long sd), (4, .int tm)]) (by decide) (Nat.le_of_ble_eq_true rfl) rfl ?_
  have hH := hR.1
  have hNs := hR.2.1
  obtain ⟨hO, hQ, hD⟩ := id hR.2.2.2.2.1
  obtain ⟨g53, h53⟩ := hR.2.2.2.2.2.1
  have hJ := hR.2.2.2.1
  obtain ⟨g56, h56, hT56⟩ := hR.2.2.2.2.2.2.2.2.2.1
  have hdf := hR.2.2.2.2.2.2.2.2.2.2
  have hck : ck_k M z := hJ.2.2.2.2.2.2.2.1
  have hcs : ck_s M := hJ.2.2.2.2.2.2.2.2.1
  have hz63 : 63 ≤ z := by omega
  have hK := hR.2.2.1 v hv
  rw [hN] at hK
  obtain ⟨hn, ⟨gd, hgd, hgD⟩, hT, hC, hP, hL⟩ := id hK
  have hn : M (63 + 34 * v) = ndO (63 + 34 * v) (nI v) (nI 1) (nI (ksN N.1)) (pvI (ksF N.1)) N.2.2.1 N.2.2.2 := by rw [hup] at hn; exact hn
  have htO := hT.1
  have htR := hT.2.1.1
  rw [List.length_map] at htR
  obtain ⟨fb, fht, ftm, fbi, t5, t6, t7, t8, tX⟩ := id hT.2.2.2.1
  have hen : (enB (ksB N.1)).length = (ksB N.1).length := enB_len _
  have hb5 := hI.2.1
  have hb113 := hI.1.top.2.1
  have hwf : wfE (enB (ksB N.1)) := hI.1.2.2.2.2.1
  have hht := hwf.ht (k := ksT N.1) (by omega)
  refine hz_aloadn (pc := 0) 0 (hz_dec kX11_assemble 0 rfl) rfl ?_
  refine hz_iloadn (pc := 1) 1 (hz_dec kX11_assemble 1 rfl) rfl ?_
  refine hz_xV (pc := 2) (a := 8) (As := [.int (nI v)]) (st := []) (hz_dec kX11_assemble 2 rfl) co_X11_162 im_X11_nodeOf se_X11_nodeOf rfl hH (by omega) (by omega) (c_nOf hz63 hH hnn hNs (b := v) hv) rfl (by decide) ⟨Nat.le_refl _, Nat.le_refl _⟩ (Nat.le_of_ble_eq_true rfl) rfl ?_
  refine hz_astore (pc := 5) (i := 5) (lo2 := [(5, .ref (63 + 34 * v)), (0, .ref 8), (1, .int (nI v)), (2, .long sd), (4, .int tm)]) (hz_dec kX11_assemble 3 rfl) (by decide) rfl ?_
  refine hz_aload (pc := 7) 0 (hz_dec kX11_assemble 4 rfl) rfl ?_
  refine hz_ifnonnull (pc := 9) (tgt := 14) (hz_dec kX11_assemble 5 rfl) (by decide) ?_
  refine hz_aload (pc := 14) 0 (hz_dec kX11_assemble 8 rfl) rfl ?_
  refine hz_get (pc := 16) (hz_dec kX11_assemble 9 rfl) fo_X11_166 hn (by omega) (by omega) rfl ?_
  refine hz_z_ne (pc := 19) (tgt := 25) (hz_dec kX11_assemble 10 rfl) (by decide) (by omega) (fun hq1 => ?_) (fun hq1 => ?_)
  · skip
    refine hz_aload (pc := 25) 0 (hz_dec kX11_assemble 13 rfl) rfl ?_
    refine hz_get (pc := 27) (hz_dec kX11_assemble 14 rfl) fo_X11_104 hn (by omega) (by omega) rfl ?_
    refine hz_astore (pc := 30) (i := 6) (lo2 := [(6, .ref (63 + 34 * v + 21)), (5, .ref (63 + 34 * v)), (0, .ref 8), (1, .int (nI v)), (2, .long sd), (4, .int tm)]) (hz_dec kX11_assemble 15 rfl) (by decide) rfl ?_
    refine hz_iload (pc := 32) 5 (hz_dec kX11_assemble 16 rfl) rfl ?_
    refine hz_aload (pc := 34) 0 (hz_dec kX11_assemble 17 rfl) rfl ?_
    refine hz_aload (pc := 36) 0 (hz_dec kX11_assemble 18 rfl) rfl ?_
    refine hz_get (pc := 38) (hz_dec kX11_assemble 19 rfl) fo_X11_235 htO (by omega) (by omega) rfl ?_
    refine hz_callV (pc := 41) (a := 63 + 34 * v + 21) (As := [.int (nI (ksT N.1))]) (st := [.int tm]) (hz_dec kX11_assemble 20 rfl) co_X11_238 im_X10_middleTime se_X10_middleTime rfl htO (by omega) (by omega) (c_mid hT (by omega) (by omega) (x := ksT N.1) (by omega)) rfl (by decide) ⟨Nat.le_refl _, Nat.le_refl _⟩ (Nat.le_of_ble_eq_true rfl) rfl (fun r9 z9 M1 hp9 => ?_)
    obtain ⟨rfl, rfl, f9, rfl⟩ := hp9
    have hf1 : frS [(63 + 34 * v, 63 + 34 * v + 34)] M (va_up M (63 + 34 * v + 21 + 12) (.inl (0, 11, .inl f9))) := frS.rf.upr (by simp only [outS, and_true]; omega)
    have hn1_ : ndR (va_up M (63 + 34 * v + 21 + 12) (.inl (0, 11, .inl f9))) (63 + 34 * v) v N := by obtain ⟨q1, ⟨g, q2, q3⟩, q4, q5, q6, q7⟩ := id hK; exact ⟨hz_mne q1 (by omega), ⟨g, hz_mne q2 (by omega), q3⟩, q4.fm (fun q r1 r2 => va_up_ne _ _ (by omega)) ⟨f9, va_up_self _ _ _⟩, q5.fr (fun q r1 r2 => va_up_ne _ _ (by omega)), q6.fr (fun q r1 r2 => va_up_ne _ _ (by omega)), q7.fr (fun q r1 r2 => va_up_ne _ _ (by omega))⟩
    have hR1 : hcR (va_up M (63 + 34 * v + 21 + 12) (.inl (0, 11, .inl f9))) z H ll fr kn := by have q := hR.n hv hf1 hn1_; rw [hoS_id hv hN] at q; exact q
    have hfz1 : frS [(8, 63 + 34 * (hoN H).length)] M (va_up M (63 + 34 * v + 21 + 12) (.inl (0, 11, .inl f9))) := (hf1.mono (fun q (h9 : outS [(8, 63 + 34 * (hoN H).length)] q) => ⟨by have r := h9.1; omega, trivial⟩))
    generalize (va_up M (63 + 34 * v + 21 + 12) (.inl (0, 11, .inl f9))) = M1 at *
    refine hz_icmp_gt (pc := 44) (tgt := 49) (hz_dec kX11_assemble 21 rfl) (by decide) (fun h1 => ?_) (fun h1 => ?_)
    · skip
      exact absurd h1 htm
    · skip
      refine hz_iconst (pc := 47) (v := (-1)) (hz_dec kX11_assemble 22 rfl) (by decide) ?_
      exact hz_iret (pc := 48) (hz_dec kX11_assemble 23 rfl) rfl ⟨rfl, rfl, hfz1, ll, fr, kn, hR1⟩
  · skip
    exact absurd hq1 (by decide)
set_option maxHeartbeats 4000000 in
set_option maxRecDepth 100000 in
theorem c_asm {κ : hz_C} {z : Nat} {M : hz_M} {H : ho_H} (hz : 63 + 34 * (hoN H).length ≤ z) (hnn : (hoN H).length ≤ 6) (hT4 : (hoT H).length ≤ 4000) {ll : Nat} {fr kn : Int32} (hR : hcR M z H ll fr kn) {v : Nat} (hv : v < (hoN H).length) {N : nd_N} (hN : ndL (hoN H) v = N) (hup : N.2.1 = true) (hI : ksI N.1) {sd : Int64} {tm : Int32} (htm : midE (enB (ksB N.1)) (ksT N.1) < tm) : hz_Mt κ xX11_assemble 6 0 0 [.ref 8, .int (nI v), .long sd, .int tm] z M (hcP M z H (.int (nI (asN N tm sd).length)) (hot H (rpS (asN N tm sd)) (hoE H))) := by
  refine hz_ent (lo := [(0, .ref 8), (1, .int (nI v)), (2, .long sd), (4, .int tm)]) (by decide) (Nat.le_of_ble_eq_true rfl) rfl ?_
  have hH := hR.1
  have hNs := hR.2.1
  obtain ⟨hO, hQ, hD⟩ := id hR.2.2.2.2.1
  obtain ⟨g53, h53⟩ := hR.2.2.2.2.2.1
  have hJ := hR.2.2.2.1
  obtain ⟨g56, h56, hT56⟩ := hR.2.2.2.2.2.2.2.2.2.1
  have hdf := hR.2.2.2.2.2.2.2.2.2.2
  have hck : ck_k M z := hJ.2.2.2.2.2.2.2.1
  have hcs : ck_s M := hJ.2.2.2.2.2.2.2.2.1
  have hz63 : 63 ≤ z := by omega
  have hK := hR.2.2.1 v hv
  rw [hN] at hK
  obtain ⟨hn, ⟨gd, hgd, hgD⟩, hT, hC, hP, hL⟩ := id hK
  have hn : M (63 + 34 * v) = ndO (63 + 34 * v) (nI v) (nI 1) (nI (ksN N.1)) (pvI (ksF N.1)) N.2.2.1 N.2.2.2 := by rw [hup] at hn; exact hn
  have htO := hT.1
  have htR := hT.2.1.1
  rw [List.length_map] at htR
  obtain ⟨fb, fht, ftm, fbi, t5, t6, t7, t8, tX⟩ := id hT.2.2.2.1
  have hen : (enB (ksB N.1)).length = (ksB N.1).length := enB_len _
  have hb5 := hI.2.1
  have hb113 := hI.1.top.2.1
  have hwf : wfE (enB (ksB N.1)) := hI.1.2.2.2.2.1
  have hht := hwf.ht (k := ksT N.1) (by omega)
  refine hz_aloadn (pc := 0) 0 (hz_dec kX11_assemble 0 rfl) rfl ?_
  refine hz_iloadn (pc := 1) 1 (hz_dec kX11_assemble 1 rfl) rfl ?_
  refine hz_xV (pc := 2) (a := 8) (As := [.int (nI v)]) (st := []) (hz_dec kX11_assemble 2 rfl) co_X11_162 im_X11_nodeOf se_X11_nodeOf rfl hH (by omega) (by omega) (c_nOf hz63 hH hnn hNs (b := v) hv) rfl (by decide) ⟨Nat.le_refl _, Nat.le_refl _⟩ (Nat.le_of_ble_eq_true rfl) rfl ?_
  refine hz_astore (pc := 5) (i := 5) (lo2 := [(5, .ref (63 + 34 * v)), (0, .ref 8), (1, .int (nI v)), (2, .long sd), (4, .int tm)]) (hz_dec kX11_assemble 3 rfl) (by decide) rfl ?_
  refine hz_aload (pc := 7) 0 (hz_dec kX11_assemble 4 rfl) rfl ?_
  refine hz_ifnonnull (pc := 9) (tgt := 14) (hz_dec kX11_assemble 5 rfl) (by decide) ?_
  refine hz_aload (pc := 14) 0 (hz_dec kX11_assemble 8 rfl) rfl ?_
  refine hz_get (pc := 16) (hz_dec kX11_assemble 9 rfl) fo_X11_166 hn (by omega) (by omega) rfl ?_
  refine hz_z_ne (pc := 19) (tgt := 25) (hz_dec kX11_assemble 10 rfl) (by decide) (by omega) (fun hq1 => ?_) (fun hq1 => ?_)
  · skip
    refine hz_aload (pc := 25) 0 (hz_dec kX11_assemble 13 rfl) rfl ?_
    refine hz_get (pc := 27) (hz_dec kX11_assemble 14 rfl) fo_X11_104 hn (by omega) (by omega) rfl ?_
    refine hz_astore (pc := 30) (i := 6) (lo2 := [(6, .ref (63 + 34 * v + 21)), (5, .ref (63 + 34 * v)), (0, .ref 8), (1, .int (nI v)), (2, .long sd), (4, .int tm)]) (hz_dec kX11_assemble 15 rfl) (by decide) rfl ?_
    refine hz_iload (pc := 32) 5 (hz_dec kX11_assemble 16 rfl) rfl ?_
    refine hz_aload (pc := 34) 0 (hz_dec kX11_assemble 17 rfl) rfl ?_
    refine hz_aload (pc := 36) 0 (hz_dec kX11_assemble 18 rfl) rfl ?_
    refine hz_get (pc := 38) (hz_dec kX11_assemble 19 rfl) fo_X11_235 htO (by omega) (by omega) rfl ?_
    refine hz_callV (pc := 41) (a := 63 + 34 * v + 21) (As := [.int (nI (ksT N.1))]) (st := [.int tm]) (hz_dec kX11_assemble 20 rfl) co_X11_238 im_X10_middleTime se_X10_middleTime rfl htO (by omega) (by omega) (c_mid hT (by omega) (by omega) (x := ksT N.1) (by omega)) rfl (by decide) ⟨Nat.le_refl _, Nat.le_refl _⟩ (Nat.le_of_ble_eq_true rfl) rfl (fun r9 z9 M1 hp9 => ?_)
    obtain ⟨rfl, rfl, f9, rfl⟩ := hp9
    have hf1 : frS [(63 + 34 * v, 63 + 34 * v + 34)] M (va_up M (63 + 34 * v + 21 + 12) (.inl (0, 11, .inl f9))) := frS.rf.upr (by simp only [outS, and_true]; omega)
    have hn1_ : ndR (va_up M (63 + 34 * v + 21 + 12) (.inl (0, 11, .inl f9))) (63 + 34 * v) v N := by obtain ⟨q1, ⟨g, q2, q3⟩, q4, q5, q6, q7⟩ := id hK; exact ⟨hz_mne q1 (by omega), ⟨g, hz_mne q2 (by omega), q3⟩, q4.fm (fun q r1 r2 => va_up_ne _ _ (by omega)) ⟨f9, va_up_self _ _ _⟩, q5.fr (fun q r1 r2 => va_up_ne _ _ (by omega)), q6.fr (fun q r1 r2 => va_up_ne _ _ (by omega)), q7.fr (fun q r1 r2 => va_up_ne _ _ (by omega))⟩
    have hR1 : hcR (va_up M (63 + 34 * v + 21 + 12) (.inl (0, 11, .inl f9))) z H ll fr kn := by have q := hR.n hv hf1 hn1_; rw [hoS_id hv hN] at q; exact q
    have hfz1 : frS [(8, 63 + 34 * (hoN H).length)] M (va_up M (63 + 34 * v + 21 + 12) (.inl (0, 11, .inl f9))) := (hf1.mono (fun q (h9 : outS [(8, 63 + 34 * (hoN H).length)] q) => ⟨by have r := h9.1; omega, trivial⟩))
    generalize (va_up M (63 + 34 * v + 21 + 12) (.inl (0, 11, .inl f9))) = M1 at *
    obtain ⟨g56, h561, -⟩ := hR1.2.2.2.2.2.2.2.2.2.1
    have hK1 : ndR M1 (63 + 34 * v) v N := by have q := hR1.2.2.1 v hv; rw [show ndL (hoN H) v = N from hN] at q; exact q
    obtain ⟨hn1, -, hT1, hC1, hP1, hL1⟩ := id hK1
    have hn1 : M1 (63 + 34 * v) = ndO (63 + 34 * v) (nI v) (nI 1) (nI (ksN N.1)) (pvI (ksF N.1)) N.2.2.1 N.2.2.2 := by rw [hup] at hn1; exact hn1
    have hH1 := hR1.1
    have htO1 := hT1.1
    have hJ1 := hR1.2.2.2.1
    obtain ⟨fh, t4, t4x⟩ := id hT1.2.2.1
    obtain ⟨fb1, fht1, ftm1, fbi1, t51, t61, t71, t81, tX1⟩ := id hT1.2.2.2.1
    refine hz_icmp_gt (pc := 44) (tgt := 49) (hz_dec kX11_assemble 21 rfl) (by decide) (fun h1 => ?_) (fun h1 => ?_)
    · skip
      refine hz_aload (pc := 49) 0 (hz_dec kX11_assemble 24 rfl) rfl ?_
      refine hz_get (pc := 51) (hz_dec kX11_assemble 25 rfl) fo_X11_241 htO1 (by omega) (by omega) rfl ?_
      refine hz_aload (pc := 54) 0 (hz_dec kX11_assemble 26 rfl) rfl ?_
      refine hz_get (pc := 56) (hz_dec kX11_assemble 27 rfl) fo_X11_235 htO1 (by omega) (by omega) rfl ?_
      refine hz_iald (pc := 59) (j := ksT N.1) (hz_dec kX11_assemble 28 rfl) t61 (by omega) (by omega) rfl (by omega) (by decide) ?_
      refine hz_eqi (pc := 60) (tX1 (ksT N.1) (by omega)).2.1 ?_
      refine hz_iconst (pc := 60) (v := nI 1) (hz_dec kX11_assemble 29 rfl) (by decide) ?_
      refine hz_addN (pc := 61) (hz_dec kX11_assemble 30 rfl) ?_
      refine hz_istore (pc := 62) (i := 7) (lo2 := [(7, .int (nI ((eH (enB (ksB N.1)) (ksT N.1)) + 1))), (6, .ref (63 + 34 * v + 21)), (5, .ref (63 + 34 * v)), (0, .ref 8), (1, .int (nI v)), (2, .long sd), (4, .int tm)]) (hz_dec kX11_assemble 31 rfl) (by decide) rfl ?_
      refine hz_aload (pc := 64) 1 (hz_dec kX11_assemble 32 rfl) rfl ?_
      refine hz_get (pc := 66) (hz_dec kX11_assemble 33 rfl) fo_X11_244 htO1 (by omega) (by omega) rfl ?_
      refine hz_bipush (pc := 69) (v := nI 32) (hz_dec kX11_assemble 34 rfl) (by decide) ?_
      refine hz_aload (pc := 71) 1 (hz_dec kX11_assemble 35 rfl) rfl ?_
      refine hz_get (pc := 73) (hz_dec kX11_assemble 36 rfl) fo_X11_235 htO1 (by omega) (by omega) rfl ?_
      refine hz_mulN (pc := 76) (hz_dec kX11_assemble 37 rfl) ?_
      refine hz_aloadn (pc := 77) 3 (hz_dec kX11_assemble 38 rfl) rfl ?_
      refine hz_get (pc := 78) (hz_dec kX11_assemble 39 rfl) fo_X11_72 hH1 (by omega) (by omega) rfl ?_
      refine hz_iconst (pc := 81) (v := nI 0) (hz_dec kX11_assemble 40 rfl) (by decide) ?_
      refine hz_bipush (pc := 82) (v := nI 32) (hz_dec kX11_assemble 41 rfl) (by decide) ?_
      refine hz_xS (pc := 84) (As := [.ref (63 + 34 * v + 21 + 4), .int (nI (32 * (ksT N.1))), .ref 56, .int (nI 0), .int (nI 32)]) (st := []) (hz_dec kX11_assemble 42 rfl) co_X11_231 sc_X0_copy (c_copy (i0 := 32 * ksT N.1) (j0 := 0) (mn := 32) t4 (by omega) (by omega) (by decide) h561 (by decide) (by omega) (by decide) (by omega) (by decide)) rfl (by decide) ⟨Nat.le_refl _, Nat.le_refl _⟩ (Nat.le_of_ble_eq_true rfl) rfl ?_
      refine hz_mem (pc := 87) (M2 := (va_up M1 56 (.inl (1, 4000, .inl (va_cpy fh g56 (32 * ksT N.1) 0 32))))) rfl ?_
      refine hz_aloadn (pc := 87) 3 (hz_dec kX11_assemble 43 rfl) rfl ?_
      refine hz_get (pc := 88) (hz_dec kX11_assemble 44 rfl) fo_X11_72 (hz_mne hH1 (by omega)) (by omega) (by omega) rfl ?_
      refine hz_bipush (pc := 91) (v := nI 64) (hz_dec kX11_assemble 45 rfl) (by decide) ?_
      refine hz_iload (pc := 93) 6 (hz_dec kX11_assemble 46 rfl) rfl ?_
      refine hz_i2l (pc := 95) (hz_dec kX11_assemble 47 rfl) ?_
      refine hz_iconst (pc := 96) (v := nI 4) (hz_dec kX11_assemble 48 rfl) (by decide) ?_
      refine hz_xS (pc := 97) (As := [.ref 56, .int (nI 64), .long (tm).toInt64, .int (nI 4)]) (st := []) (hz_dec kX11_assemble 49 rfl) co_X11_127 sc_X0_put (c_put (at_ := 64) (mn := 4) (v := tm.toInt64) (va_up_self _ _ _) (by decide) (by omega) (by decide) (by decide)) rfl (by decide) ⟨Nat.le_refl _, Nat.le_refl _⟩ (Nat.le_of_ble_eq_true rfl) rfl ?_
      refine hz_mem (pc := 100) (M2 := (va_up (va_up M1 56 (.inl (1, 4000, .inl (va_cpy fh g56 (32 * ksT N.1) 0 32)))) 56 (.inl (1, 4000, .inl (bn_put 64 4 tm.toInt64 (va_cpy fh g56 (32 * ksT N.1) 0 32)))))) rfl ?_
      refine hz_mem (pc := 100) (M2 := (va_up M1 56 (.inl (1, 4000, .inl (bn_put 64 4 tm.toInt64 (va_cpy fh g56 (32 * ksT N.1) 0 32)))))) (bx_uu _ _ _ _) ?_
      have hf2 : frS [(8, 9), (56, 57)] M1 (va_up M1 56 (.inl (1, 4000, .inl (bn_put 64 4 tm.toInt64 (va_cpy fh g56 (32 * ksT N.1) 0 32))))) := ((frS.rf (S := [(8, 9), (56, 57)])).upr (a := 56) (by simp only [outS, and_true]; omega))
      have hR2 : hcR (va_up M1 56 (.inl (1, 4000, .inl (bn_put 64 4 tm.toInt64 (va_cpy fh g56 (32 * ksT N.1) 0 32))))) z (hot H (cutL (bn_put 64 4 tm.toInt64 (va_cpy fh g56 (32 * ksT N.1) 0 32)) 0 (hoT H).length) (hoE H)) ll fr kn := hR1.t hf2 (by rw [cutL_len]; exact hz_mne hH1 (by decide)) ⟨_, va_up_self _ _ _, isA_cut _ _ _⟩
      have h562 : (va_up M1 56 (.inl (1, 4000, .inl (bn_put 64 4 tm.toInt64 (va_cpy fh g56 (32 * ksT N.1) 0 32))))) 56 = .inl (1, 4000, .inl (bn_put 64 4 tm.toInt64 (va_cpy fh g56 (32 * ksT N.1) 0 32))) := va_up_self _ _ _
      have hfz2 : frS [(8, 63 + 34 * (hoN H).length)] M (va_up M1 56 (.inl (1, 4000, .inl (bn_put 64 4 tm.toInt64 (va_cpy fh g56 (32 * ksT N.1) 0 32))))) := hfz1.tr (hf2.mono (fun q (h9 : outS [(8, 63 + 34 * (hoN H).length)] q) => ⟨by have r := h9.1; omega, by have r := h9.1; omega, trivial⟩))
      generalize (va_up M1 56 (.inl (1, 4000, .inl (bn_put 64 4 tm.toInt64 (va_cpy fh g56 (32 * ksT N.1) 0 32))))) = M2 at *
      have hK2 : ndR M2 (63 + 34 * v) v N := by have q := hR2.2.2.1 v hv; rw [show ndL (hoN (hot H (cutL (bn_put 64 4 tm.toInt64 (va_cpy fh g56 (32 * ksT N.1) 0 32)) 0 (hoT H).length) (hoE H))) v = N from hN] at q; exact q
      obtain ⟨hn2, -, hT2, hC2, hP2, hL2⟩ := id hK2
      have hn2 : M2 (63 + 34 * v) = ndO (63 + 34 * v) (nI v) (nI 1) (nI (ksN N.1)) (pvI (ksF N.1)) N.2.2.1 N.2.2.2 := by rw [hup] at hn2; exact hn2
      have hH2 : M2 8 = hoO (hoT H).length (hoE H) := by have q := hR2.1; rw [show (hoT (hot H (cutL (bn_put 64 4 tm.toInt64 (va_cpy fh g56 (32 * ksT N.1) 0 32)) 0 (hoT H).length) (hoE H))).length = (hoT H).length from cutL_len _ _ _] at q; exact q
      have htO2 := hT2.1
      have hJ2 := hR2.2.2.2.1
      refine hz_aloadn (pc := 100) 3 (hz_dec kX11_assemble 50 rfl) rfl ?_
      refine hz_get (pc := 101) (hz_dec kX11_assemble 51 rfl) fo_X11_72 hH2 (by omega) (by omega) rfl ?_
      refine hz_bipush (pc := 104) (v := nI 68) (hz_dec kX11_assemble 52 rfl) (by decide) ?_
      refine hz_aload (pc := 106) 1 (hz_dec kX11_assemble 53 rfl) rfl ?_
      refine hz_aload (pc := 108) 1 (hz_dec kX11_assemble 54 rfl) rfl ?_
      refine hz_get (pc := 110) (hz_dec kX11_assemble 55 rfl) fo_X11_235 htO2 (by omega) (by omega) rfl ?_
      refine hz_callV (pc := 113) (a := 63 + 34 * v + 21) (As := [.int (nI (ksT N.1))]) (st := [.int (nI 68), .ref 56]) (hz_dec kX11_assemble 56 rfl) co_X11_247 im_X10_dueBits se_X10_dueBits rfl htO2 (by omega) (by omega) (c_due hT2 (by omega) (by omega) hJ2.2.2.2.2.2.2.2.2.2 (x := ksT N.1) (by omega)) rfl (by decide) ⟨Nat.le_refl _, Nat.le_refl _⟩ (Nat.le_of_ble_eq_true rfl) rfl (fun r9 z9 M3 hp9 => ?_)
      obtain ⟨rfl, rfl, hf3, hw3⟩ := hp9
      have hR3 : hcR M3 z (hot H (cutL (bn_put 64 4 tm.toInt64 (va_cpy fh g56 (32 * ksT N.1) 0 32)) 0 (hoT H).length) (hoE H)) ll fr kn := hR2.j (hf3.mono (fun q (h9 : outS [(9, 39)] q) => ⟨by have r := h9.1; omega, trivial⟩)) (hJ2.w (fun q q1 q2 q3 => hf3.at1 (by omega)) hw3)
      have hfz3 : frS [(8, 63 + 34 * (hoN H).length)] M M3 := hfz2.tr (hf3.mono (fun q (h9 : outS [(8, 63 + 34 * (hoN H).length)] q) => ⟨by have r := h9.1; omega, trivial⟩))
      have h563 := (hf3.at1 (q := 56) (by omega)).trans h562
      have hK3 : ndR M3 (63 + 34 * v) v N := by have q := hR3.2.2.1 v hv; rw [show ndL (hoN (hot H (cutL (bn_put 64 4 tm.toInt64 (va_cpy fh g56 (32 * ksT N.1) 0 32)) 0 (hoT H).length) (hoE H))) v = N from hN] at q; exact q
      obtain ⟨hn3, -, hT3, hC3, hP3, hL3⟩ := id hK3
      have hn3 : M3 (63 + 34 * v) = ndO (63 + 34 * v) (nI v) (nI 1) (nI (ksN N.1)) (pvI (ksF N.1)) N.2.2.1 N.2.2.2 := by rw [hup] at hn3; exact hn3
      have hH3 : M3 8 = hoO (hoT H).length (hoE H) := by have q := hR3.1; rw [show (hoT (hot H (cutL (bn_put 64 4 tm.toInt64 (va_cpy fh g56 (32 * ksT N.1) 0 32)) 0 (hoT H).length) (hoE H))).length = (hoT H).length from cutL_len _ _ _] at q; exact q
      have htO3 := hT3.1
      have hJ3 := hR3.2.2.2.1
      refine hz_i2l (pc := 116) (hz_dec kX11_assemble 57 rfl) ?_
      refine hz_iconst (pc := 117) (v := nI 4) (hz_dec kX11_assemble 58 rfl) (by decide) ?_
      refine hz_xS (pc := 118) (As := [.ref 56, .int (nI 68), .long ((dueE (enB (ksB N.1)) (ksT N.1)).toInt64), .int (nI 4)]) (st := []) (hz_dec kX11_assemble 59 rfl) co_X11_127 sc_X0_put (c_put (at_ := 68) (mn := 4) (v := (dueE (enB (ksB N.1)) (ksT N.1)).toInt64) h563 (by decide) (by omega) (by decide) (by decide)) rfl (by decide) ⟨Nat.le_refl _, Nat.le_refl _⟩ (Nat.le_of_ble_eq_true rfl) rfl ?_
      refine hz_mem (pc := 121) (M2 := (va_up M3 56 (.inl (1, 4000, .inl (bn_put 68 4 (dueE (enB (ksB N.1)) (ksT N.1)).toInt64 (bn_put 64 4 tm.toInt64 (va_cpy fh g56 (32 * ksT N.1) 0 32))))))) rfl ?_
      refine hz_aloadn (pc := 121) 3 (hz_dec kX11_assemble 60 rfl) rfl ?_
      refine hz_get (pc := 122) (hz_dec kX11_assemble 61 rfl) fo_X11_72 (hz_mne hH3 (by omega)) (by omega) (by omega) rfl ?_
      refine hz_bipush (pc := 125) (v := nI 72) (hz_dec kX11_assemble 62 rfl) (by decide) ?_
      refine hz_lconst (pc := 127) (v := 0) (hz_dec kX11_assemble 63 rfl) (by decide) ?_
      refine hz_bipush (pc := 128) (v := nI 8) (hz_dec kX11_assemble 64 rfl) (by decide) ?_
      refine hz_xS (pc := 130) (As := [.ref 56, .int (nI 72), .long 0, .int (nI 8)]) (st := []) (hz_dec kX11_assemble 65 rfl) co_X11_127 sc_X0_put (c_put (at_ := 72) (mn := 8) (v := 0) (va_up_self _ _ _) (by decide) (by omega) (by decide) (by decide)) rfl (by decide) ⟨Nat.le_refl _, Nat.le_refl _⟩ (Nat.le_of_ble_eq_true rfl) rfl ?_
      refine hz_mem (pc := 133) (M2 := (va_up (va_up M3 56 (.inl (1, 4000, .inl (bn_put 68 4 (dueE (enB (ksB N.1)) (ksT N.1)).toInt64 (bn_put 64 4 tm.toInt64 (va_cpy fh g56 (32 * ksT N.1) 0 32)))))) 56 (.inl (1, 4000, .inl (bn_put 72 8 0 (bn_put 68 4 (dueE (enB (ksB N.1)) (ksT N.1)).toInt64 (bn_put 64 4 tm.toInt64 (va_cpy fh g56 (32 * ksT N.1) 0 32)))))))) rfl ?_
      refine hz_mem (pc := 133) (M2 := (va_up M3 56 (.inl (1, 4000, .inl (bn_put 72 8 0 (bn_put 68 4 (dueE (enB (ksB N.1)) (ksT N.1)).toInt64 (bn_put 64 4 tm.toInt64 (va_cpy fh g56 (32 * ksT N.1) 0 32)))))))) (bx_uu _ _ _ _) ?_
      have hf4 : frS [(8, 9), (56, 57)] M3 (va_up M3 56 (.inl (1, 4000, .inl (bn_put 72 8 0 (bn_put 68 4 (dueE (enB (ksB N.1)) (ksT N.1)).toInt64 (bn_put 64 4 tm.toInt64 (va_cpy fh g56 (32 * ksT N.1) 0 32))))))) := ((frS.rf (S := [(8, 9), (56, 57)])).upr (a := 56) (by simp only [outS, and_true]; omega))
      have hR4 : hcR (va_up M3 56 (.inl (1, 4000, .inl (bn_put 72 8 0 (bn_put 68 4 (dueE (enB (ksB N.1)) (ksT N.1)).toInt64 (bn_put 64 4 tm.toInt64 (va_cpy fh g56 (32 * ksT N.1) 0 32))))))) z (hot H (cutL (bn_put 72 8 0 (bn_put 68 4 (dueE (enB (ksB N.1)) (ksT N.1)).toInt64 (bn_put 64 4 tm.toInt64 (va_cpy fh g56 (32 * ksT N.1) 0 32)))) 0 (hoT H).length) (hoE H)) ll fr kn := hcR.t (H := (hot H (cutL (bn_put 64 4 tm.toInt64 (va_cpy fh g56 (32 * ksT N.1) 0 32)) 0 (hoT H).length) (hoE H))) hR3 hf4 (by rw [cutL_len]; exact hz_mne hH3 (by decide)) ⟨_, va_up_self _ _ _, isA_cut _ _ _⟩
      have h564 : (va_up M3 56 (.inl (1, 4000, .inl (bn_put 72 8 0 (bn_put 68 4 (dueE (enB (ksB N.1)) (ksT N.1)).toInt64 (bn_put 64 4 tm.toInt64 (va_cpy fh g56 (32 * ksT N.1) 0 32))))))) 56 = .inl (1, 4000, .inl (bn_put 72 8 0 (bn_put 68 4 (dueE (enB (ksB N.1)) (ksT N.1)).toInt64 (bn_put 64 4 tm.toInt64 (va_cpy fh g56 (32 * ksT N.1) 0 32))))) := va_up_self _ _ _
      have hfz4 : frS [(8, 63 + 34 * (hoN H).length)] M (va_up M3 56 (.inl (1, 4000, .inl (bn_put 72 8 0 (bn_put 68 4 (dueE (enB (ksB N.1)) (ksT N.1)).toInt64 (bn_put 64 4 tm.toInt64 (va_cpy fh g56 (32 * ksT N.1) 0 32))))))) := hfz3.tr (hf4.mono (fun q (h9 : outS [(8, 63 + 34 * (hoN H).length)] q) => ⟨by have r := h9.1; omega, by have r := h9.1; omega, trivial⟩))
      have hG4 : asG N tm (bn_put 72 8 0 (bn_put 68 4 (dueE (enB (ksB N.1)) (ksT N.1)).toInt64 (bn_put 64 4 tm.toInt64 (va_cpy fh g56 (32 * ksT N.1) 0 32)))) := ⟨fun j hj => by rw [bn_put_out _ _ _ _ (by omega), bn_put_out _ _ _ _ (by omega), bn_put_out _ _ _ _ (by omega)]; have q := cpy_i (f := fh) (g := g56) (a := 32 * ksT N.1) (b := 0) (n := 32) hj; rw [Nat.zero_add] at q; rw [q]; exact t4x (ksT N.1) hb5 j (by rw [haS_len]; exact hj), fun j hj => by rw [bn_put_out _ _ _ _ (by omega), bn_put_out _ _ _ _ (by omega)]; exact bn_put_i hj, fun j hj => by rw [bn_put_out _ _ _ _ (by omega)]; exact bn_put_i hj, fun j hj => (bn_put_l hj).trans (byl_0 j)⟩
      generalize (va_up M3 56 (.inl (1, 4000, .inl (bn_put 72 8 0 (bn_put 68 4 (dueE (enB (ksB N.1)) (ksT N.1)).toInt64 (bn_put 64 4 tm.toInt64 (va_cpy fh g56 (32 * ksT N.1) 0 32))))))) = M4 at *
      generalize bn_put 72 8 0 (bn_put 68 4 (dueE (enB (ksB N.1)) (ksT N.1)).toInt64 (bn_put 64 4 tm.toInt64 (va_cpy fh g56 (32 * ksT N.1) 0 32))) = g4 at *
      have hK4 : ndR M4 (63 + 34 * v) v N := by have q := hR4.2.2.1 v hv; rw [show ndL (hoN (hot H (cutL (g4) 0 (hoT H).length) (hoE H))) v = N from hN] at q; exact q
      obtain ⟨hn4, -, hT4, hC4, hP4, hL4⟩ := id hK4
      have hn4 : M4 (63 + 34 * v) = ndO (63 + 34 * v) (nI v) (nI 1) (nI (ksN N.1)) (pvI (ksF N.1)) N.2.2.1 N.2.2.2 := by rw [hup] at hn4; exact hn4
      have hH4 : M4 8 = hoO (hoT H).length (hoE H) := by have q := hR4.1; rw [show (hoT (hot H (cutL (g4) 0 (hoT H).length) (hoE H))).length = (hoT H).length from cutL_len _ _ _] at q; exact q
      have htO4 := hT4.1
      have hJ4 := hR4.2.2.2.1
      refine hz_aload (pc := 133) 2 (hz_dec kX11_assemble 66 rfl) rfl ?_
      obtain ⟨g14, h144⟩ := hL4.2.2
      refine hz_callV (pc := 135) (a := 63 + 34 * v) (As := []) (st := []) (hz_dec kX11_assemble 67 rfl) co_X11_250 im_X6_chooseGreatest se_X6_chooseGreatest rfl hn4 (by omega) (by omega) (c_cg (by omega) (by omega) hn4 hP4 hI.2.2.2.1.1 h144) rfl (by decide) ⟨Nat.le_refl _, Nat.le_refl _⟩ (Nat.le_of_ble_eq_true rfl) rfl (fun r9 z9 M5 hp9 => ?_)
      obtain ⟨rfl, rfl, ch, hch, rfl⟩ := hp9
      have hf5 : frS [(63 + 34 * v, 63 + 34 * v + 34)] M4 (va_up M4 (63 + 34 * v + 14) (.inl (0, 7, .inl ch))) := frS.rf.upr (by simp only [outS, and_true]; omega)
      have hR5 : hcR (va_up M4 (63 + 34 * v + 14) (.inl (0, 7, .inl ch))) z (hot H (cutL (g4) 0 (hoT H).length) (hoE H)) ll fr kn := by have q := hcR.n (H := (hot H (cutL (g4) 0 (hoT H).length) (hoE H))) hR4 hv hf5 (hK4.c ch); rw [hoS_id (H := (hot H (cutL (g4) 0 (hoT H).length) (hoE H))) hv hN] at q; exact q
      have h565 : (va_up M4 (63 + 34 * v + 14) (.inl (0, 7, .inl ch))) 56 = .inl (1, 4000, .inl g4) := hz_mne h564 (by omega)
      have h145 : (va_up M4 (63 + 34 * v + 14) (.inl (0, 7, .inl ch))) (63 + 34 * v + 14) = .inl (0, 7, .inl ch) := va_up_self _ _ _
      have hfz5 : frS [(8, 63 + 34 * (hoN H).length)] M (va_up M4 (63 + 34 * v + 14) (.inl (0, 7, .inl ch))) := hfz4.tr (hf5.mono (fun q (h9 : outS [(8, 63 + 34 * (hoN H).length)] q) => ⟨by have r := h9.1; omega, trivial⟩))
      generalize (va_up M4 (63 + 34 * v + 14) (.inl (0, 7, .inl ch))) = M5 at *
      refine hz_istore (pc := 138) (i := 8) (lo2 := [(8, .int (nI (cgN (ksP N.1)))), (7, .int (nI ((eH (enB (ksB N.1)) (ksT N.1)) + 1))), (6, .ref (63 + 34 * v + 21)), (5, .ref (63 + 34 * v)), (0, .ref 8), (1, .int (nI v)), (2, .long sd), (4, .int tm)]) (hz_dec kX11_assemble 68 rfl) (by decide) rfl ?_
      refine hz_lconst (pc := 140) (v := 0) (hz_dec kX11_assemble 69 rfl) (by decide) ?_
      refine hz_lstore (pc := 141) (i := 9) (lo2 := [(9, .long 0), (8, .int (nI (cgN (ksP N.1)))), (7, .int (nI ((eH (enB (ksB N.1)) (ksT N.1)) + 1))), (6, .ref (63 + 34 * v + 21)), (5, .ref (63 + 34 * v)), (0, .ref 8), (1, .int (nI v)), (2, .long sd), (4, .int tm)]) (hz_dec kX11_assemble 70 rfl) (by decide) rfl ?_
      refine hz_bipush (pc := 143) (v := nI 103) (hz_dec kX11_assemble 71 rfl) (by decide) ?_
      refine hz_istore (pc := 145) (i := 11) (lo2 := [(11, .int (nI 103)), (9, .long 0), (8, .int (nI (cgN (ksP N.1)))), (7, .int (nI ((eH (enB (ksB N.1)) (ksT N.1)) + 1))), (6, .ref (63 + 34 * v + 21)), (5, .ref (63 + 34 * v)), (0, .ref 8), (1, .int (nI v)), (2, .long sd), (4, .int tm)]) (hz_dec kX11_assemble 72 rfl) (by decide) rfl ?_
      refine hz_iconst (pc := 147) (v := nI 0) (hz_dec kX11_assemble 73 rfl) (by decide) ?_
      refine hz_istore (pc := 148) (i := 12) (lo2 := [(12, .int (nI 0)), (11, .int (nI 103)), (9, .long 0), (8, .int (nI (cgN (ksP N.1)))), (7, .int (nI ((eH (enB (ksB N.1)) (ksT N.1)) + 1))), (6, .ref (63 + 34 * v + 21)), (5, .ref (63 + 34 * v)), (0, .ref 8), (1, .int (nI v)), (2, .long sd), (4, .int tm)]) (hz_dec kX11_assemble 74 rfl) (by decide) rfl ?_
      refine hz_pick (pc := 150) [0, 1, 2, 3, 4, 6, 7, 9] rfl ?_
      refine c_as_l (H := H) (M0 := M) (tm := tm) hz hnn hv hN hI (fun M6 g6 hf6 hR6 h566 hG6 hX6 hch6 => ?_) (cgN (ksP N.1)) 0 M5 g4 rfl (by omega) hfz5 hR5 h565 hG4 (isA_nil _ _) ⟨ch, h145, hch⟩
      have hn7 : cgN (ksP N.1) ≤ 7 := Nat.min_le_left _ _
      have hnl : cgN (ksP N.1) ≤ (ksP N.1).length := Nat.min_le_right _ _
      have hxl := cgX_len hI.2.2.2.1 (cgN (ksP N.1)) hnl
      have hK6 : ndR M6 (63 + 34 * v) v N := by have q := hR6.2.2.1 v hv; rw [show ndL (hoN (hot H (cutL (g6) 0 (hoT H).length) (hoE H))) v = N from hN] at q; exact q
      obtain ⟨hn6, -, hT6, hC6, hP6, hL6⟩ := id hK6
      have hn6 : M6 (63 + 34 * v) = ndO (63 + 34 * v) (nI v) (nI 1) (nI (ksN N.1)) (pvI (ksF N.1)) N.2.2.1 N.2.2.2 := by rw [hup] at hn6; exact hn6
      have hH6 : M6 8 = hoO (hoT H).length (hoE H) := by have q := hR6.1; rw [show (hoT (hot H (cutL (g6) 0 (hoT H).length) (hoE H))).length = (hoT H).length from cutL_len _ _ _] at q; exact q
      have htO6 := hT6.1
      have hJ6 := hR6.2.2.2.1
      refine hz_aloadn (pc := 239) 5 (hz_dec kX11_assemble 115 rfl) rfl ?_
      refine hz_get (pc := 240) (hz_dec kX11_assemble 116 rfl) fo_X11_72 hH6 (by omega) (by omega) rfl ?_
      refine hz_bipush (pc := 243) (v := nI 80) (hz_dec kX11_assemble 117 rfl) (by decide) ?_
      refine hz_iconst (pc := 245) (v := nI 1) (hz_dec kX11_assemble 118 rfl) (by decide) ?_
      refine hz_iload (pc := 246) 2 (hz_dec kX11_assemble 119 rfl) rfl ?_
      refine hz_addN (pc := 248) (hz_dec kX11_assemble 120 rfl) ?_
      refine hz_i2b (pc := 249) (hz_dec kX11_assemble 121 rfl) ?_
      refine hz_bast (pc := 250) (j := 80) (hz_dec kX11_assemble 122 rfl) h566 (by omega) (by omega) rfl (by omega) (by decide) ?_
      have hf7 : frS [(8, 9), (56, 57)] M6 (va_up M6 56 (.inl (1, 4000, .inl (upd g6 80 (((nI (1 + (cgN (ksP N.1)))).toInt8.toInt32).toInt8.toInt32))))) := ((frS.rf (S := [(8, 9), (56, 57)])).upr (a := 56) (by simp only [outS, and_true]; omega))
      have hR7 : hcR (va_up M6 56 (.inl (1, 4000, .inl (upd g6 80 (((nI (1 + (cgN (ksP N.1)))).toInt8.toInt32).toInt8.toInt32))))) z (hot H (cutL (upd g6 80 (((nI (1 + (cgN (ksP N.1)))).toInt8.toInt32).toInt8.toInt32)) 0 (hoT H).length) (hoE H)) ll fr kn := hcR.t (H := (hot H (cutL (g6) 0 (hoT H).length) (hoE H))) hR6 hf7 (by rw [cutL_len]; exact hz_mne hH6 (by decide)) ⟨_, va_up_self _ _ _, isA_cut _ _ _⟩
      have h567 : (va_up M6 56 (.inl (1, 4000, .inl (upd g6 80 (((nI (1 + (cgN (ksP N.1)))).toInt8.toInt32).toInt8.toInt32))))) 56 = .inl (1, 4000, .inl (upd g6 80 (((nI (1 + (cgN (ksP N.1)))).toInt8.toInt32).toInt8.toInt32))) := va_up_self _ _ _
      have hfz7 : frS [(8, 63 + 34 * (hoN H).length)] M (va_up M6 56 (.inl (1, 4000, .inl (upd g6 80 (((nI (1 + (cgN (ksP N.1)))).toInt8.toInt32).toInt8.toInt32))))) := hf6.tr (hf7.mono (fun q (h9 : outS [(8, 63 + 34 * (hoN H).length)] q) => ⟨by have r := h9.1; omega, by have r := h9.1; omega, trivial⟩))
      have hG7 : asG N tm (upd g6 80 (((nI (1 + (cgN (ksP N.1)))).toInt8.toInt32).toInt8.toInt32)) := hG6.o (fun q hq => upd_o (by omega))
      have h80 : (upd g6 80 (((nI (1 + (cgN (ksP N.1)))).toInt8.toInt32).toInt8.toInt32)) 80 = bI (nI (cgN (ksP N.1) + 1)) := by rw [upd_s, Nat.add_comm]; rfl
      have hX7 : isA (upd g6 80 (((nI (1 + (cgN (ksP N.1)))).toInt8.toInt32).toInt8.toInt32)) 103 (cgX (ksP N.1) (cgN (ksP N.1))) := fun j hj => (upd_o (by omega)).trans (hX6 j hj)
      generalize (va_up M6 56 (.inl (1, 4000, .inl (upd g6 80 (((nI (1 + (cgN (ksP N.1)))).toInt8.toInt32).toInt8.toInt32))))) = M7 at *
      generalize upd g6 80 (((nI (1 + (cgN (ksP N.1)))).toInt8.toInt32).toInt8.toInt32) = g7 at *
      have hK7 : ndR M7 (63 + 34 * v) v N := by have q := hR7.2.2.1 v hv; rw [show ndL (hoN (hot H (cutL (g7) 0 (hoT H).length) (hoE H))) v = N from hN] at q; exact q
      obtain ⟨hn7, -, hT7, hC7, hP7, hL7⟩ := id hK7
      have hn7 : M7 (63 + 34 * v) = ndO (63 + 34 * v) (nI v) (nI 1) (nI (ksN N.1)) (pvI (ksF N.1)) N.2.2.1 N.2.2.2 := by rw [hup] at hn7; exact hn7
      have hH7 : M7 8 = hoO (hoT H).length (hoE H) := by have q := hR7.1; rw [show (hoT (hot H (cutL (g7) 0 (hoT H).length) (hoE H))).length = (hoT H).length from cutL_len _ _ _] at q; exact q
      have htO7 := hT7.1
      have hJ7 := hR7.2.2.2.1
      have hck7 : ck_k M7 z := hJ7.2.2.2.2.2.2.2.1
      have hcs7 : ck_s M7 := hJ7.2.2.2.2.2.2.2.2.1
      refine hz_aloadn (pc := 251) 5 (hz_dec kX11_assemble 123 rfl) rfl ?_
      refine hz_get (pc := 252) (hz_dec kX11_assemble 124 rfl) fo_X11_72 hH7 (by omega) (by omega) rfl ?_
      refine hz_bipush (pc := 255) (v := nI 81) (hz_dec kX11_assemble 125 rfl) (by decide) ?_
      refine hz_iload (pc := 257) 3 (hz_dec kX11_assemble 126 rfl) rfl ?_
      refine hz_iload (pc := 259) 3 (hz_dec kX11_assemble 127 rfl) rfl ?_
      refine hz_xS (pc := 261) (As := [.int (nI (eH (enB (ksB N.1)) (ksT N.1) + 1))]) (st := [.int (nI (eH (enB (ksB N.1)) (ksT N.1) + 1)), .int (nI 81), .ref 56]) (hz_dec kX11_assemble 128 rfl) co_X11_263 sc_X3_subsidyAt (c_subs (h_ := eH (enB (ksB N.1)) (ksT N.1) + 1) (by omega)) rfl (by decide) ⟨Nat.le_refl _, Nat.le_refl _⟩ (Nat.le_of_ble_eq_true rfl) rfl ?_
      refine hz_i2l (pc := 264) (hz_dec kX11_assemble 129 rfl) ?_
      refine hz_lload (pc := 265) 1 (hz_dec kX11_assemble 130 rfl) rfl ?_
      refine hz_ladd (pc := 267) (hz_dec kX11_assemble 131 rfl) ?_
      refine hz_aloadn (pc := 268) 5 (hz_dec kX11_assemble 132 rfl) rfl ?_
      refine hz_get (pc := 269) (hz_dec kX11_assemble 133 rfl) fo_X11_30 hH7 (by omega) (by omega) rfl ?_
      refine hz_lloadn (pc := 272) 6 (hz_dec kX11_assemble 134 rfl) rfl ?_
      refine hz_callV (pc := 273) (a := 13) (As := [.long sd]) (st := [.long (((nI (subS (eH (enB (ksB N.1)) (ksT N.1) + 1))).toInt64) + (cgF (poV (ksP N.1)) (ksP N.1).length (cgN (ksP N.1)))), .int (nI (eH (enB (ksB N.1)) (ksT N.1) + 1)), .int (nI 81), .ref 56]) (hz_dec kX11_assemble 135 rfl) co_X11_148 im_X4_addressOf se_X4_addressOf rfl hck7.2.1 (by omega) (by omega) (c_cadO hck7 hcs7 (sd := sd)) rfl (by decide) ⟨Nat.le_refl _, Nat.le_refl _⟩ (Nat.le_of_ble_eq_true rfl) rfl (fun r9 z9 M8 hp9 => ?_)
      obtain ⟨rfl, rfl, hf8, hs8, -⟩ := hp9
      have hR8 : hcR M8 z (hot H (cutL (g7) 0 (hoT H).length) (hoE H)) ll fr kn := hR7.j (hf8.S0 rfl) (hJ7.k hf8 rfl rfl rfl hs8)
      have hfz8 : frS [(8, 63 + 34 * (hoN H).length)] M M8 := hfz7.tr ((hf8.S0 (lo := 9) (hi := 39) (S := []) rfl).mono (fun q (h9 : outS [(8, 63 + 34 * (hoN H).length)] q) => ⟨by have r := h9.1; omega, trivial⟩))
      have h568 := (hf8.z 56 rfl).trans h567
      have hK8 : ndR M8 (63 + 34 * v) v N := by have q := hR8.2.2.1 v hv; rw [show ndL (hoN (hot H (cutL (g7) 0 (hoT H).length) (hoE H))) v = N from hN] at q; exact q
      obtain ⟨hn8, -, hT8, hC8, hP8, hL8⟩ := id hK8
      have hn8 : M8 (63 + 34 * v) = ndO (63 + 34 * v) (nI v) (nI 1) (nI (ksN N.1)) (pvI (ksF N.1)) N.2.2.1 N.2.2.2 := by rw [hup] at hn8; exact hn8
      have hH8 : M8 8 = hoO (hoT H).length (hoE H) := by have q := hR8.1; rw [show (hoT (hot H (cutL (g7) 0 (hoT H).length) (hoE H))).length = (hoT H).length from cutL_len _ _ _] at q; exact q
      have htO8 := hT8.1
      have hJ8 := hR8.2.2.2.1
      refine hz_xS (pc := 276) (As := [.ref 56, .int (nI 81), .int (nI (eH (enB (ksB N.1)) (ksT N.1) + 1)), .long (((nI (subS (eH (enB (ksB N.1)) (ksT N.1) + 1))).toInt64) + (cgF (poV (ksP N.1)) (ksP N.1).length (cgN (ksP N.1)))), .long (ky_a sd)]) (st := []) (hz_dec kX11_assemble 136 rfl) co_X11_266 sc_X0_putReward (c_putRw (at_ := 81) (h := nI (eH (enB (ksB N.1)) (ksT N.1) + 1)) (v := ((nI (subS (eH (enB (ksB N.1)) (ksT N.1) + 1))).toInt64 + cgF (poV (ksP N.1)) (ksP N.1).length (cgN (ksP N.1)))) (ad := ky_a sd) h568 (by decide) (by omega) (by decide) (by decide)) rfl (by decide) ⟨Nat.le_refl _, Nat.le_refl _⟩ (Nat.le_of_ble_eq_true rfl) rfl ?_
      refine hz_mem (pc := 279) (M2 := (va_up M8 56 (.inl (1, 4000, .inl (bn_put (81 + 14) 8 (ky_a sd) (bn_put (81 + 6) 8 ((nI (subS (eH (enB (ksB N.1)) (ksT N.1) + 1))).toInt64 + cgF (poV (ksP N.1)) (ksP N.1).length (cgN (ksP N.1))) (bn_put (81 + 2) 4 (nI (eH (enB (ksB N.1)) (ksT N.1) + 1)).toInt64 (bn_put 81 2 1 g7)))))))) rfl ?_
      refine hz_aloadn (pc := 279) 5 (hz_dec kX11_assemble 137 rfl) rfl ?_
      refine hz_iload (pc := 280) 0 (hz_dec kX11_assemble 138 rfl) rfl ?_
      refine hz_puti (pc := 282) (hz_dec kX11_assemble 139 rfl) fo_X11_124 ft_X11_8 (hz_mne hH8 (by omega)) (by omega) (by omega) (Nat.le_of_ble_eq_true rfl) ?_
      refine hz_mem (pc := 285) (M2 := (va_up (va_up M8 56 (.inl (1, 4000, .inl (bn_put (81 + 14) 8 (ky_a sd) (bn_put (81 + 6) 8 ((nI (subS (eH (enB (ksB N.1)) (ksT N.1) + 1))).toInt64 + cgF (poV (ksP N.1)) (ksP N.1).length (cgN (ksP N.1))) (bn_put (81 + 2) 4 (nI (eH (enB (ksB N.1)) (ksT N.1) + 1)).toInt64 (bn_put 81 2 1 g7))))))) 8 (.inr (11, [.ref 9, .ref 13, .ref 20, .ref 25, .ref 39, .ref 45, .ref 55, .ref 56, .int (nI (103 + (cgX (ksP N.1) (cgN (ksP N.1))).length)), .int (hoE H), .ref 57, .ref 58, .ref 61])))) rfl ?_
      have hf9 : frS [(8, 9), (56, 57)] M8 (va_up (va_up M8 56 (.inl (1, 4000, .inl (bn_put (81 + 14) 8 (ky_a sd) (bn_put (81 + 6) 8 ((nI (subS (eH (enB (ksB N.1)) (ksT N.1) + 1))).toInt64 + cgF (poV (ksP N.1)) (ksP N.1).length (cgN (ksP N.1))) (bn_put (81 + 2) 4 (nI (eH (enB (ksB N.1)) (ksT N.1) + 1)).toInt64 (bn_put 81 2 1 g7))))))) 8 (.inr (11, [.ref 9, .ref 13, .ref 20, .ref 25, .ref 39, .ref 45, .ref 55, .ref 56, .int (nI (103 + (cgX (ksP N.1) (cgN (ksP N.1))).length)), .int (hoE H), .ref 57, .ref 58, .ref 61]))) := (((frS.rf (S := [(8, 9), (56, 57)])).upr (a := 56) (by simp only [outS, and_true]; omega)).upr (a := 8) (by simp only [outS, and_true]; omega))
      have hR9 : hcR (va_up (va_up M8 56 (.inl (1, 4000, .inl (bn_put (81 + 14) 8 (ky_a sd) (bn_put (81 + 6) 8 ((nI (subS (eH (enB (ksB N.1)) (ksT N.1) + 1))).toInt64 + cgF (poV (ksP N.1)) (ksP N.1).length (cgN (ksP N.1))) (bn_put (81 + 2) 4 (nI (eH (enB (ksB N.1)) (ksT N.1) + 1)).toInt64 (bn_put 81 2 1 g7))))))) 8 (.inr (11, [.ref 9, .ref 13, .ref 20, .ref 25, .ref 39, .ref 45, .ref 55, .ref 56, .int (nI (103 + (cgX (ksP N.1) (cgN (ksP N.1))).length)), .int (hoE H), .ref 57, .ref 58, .ref 61]))) z (hot H (cutL (bn_put (81 + 14) 8 (ky_a sd) (bn_put (81 + 6) 8 ((nI (subS (eH (enB (ksB N.1)) (ksT N.1) + 1))).toInt64 + cgF (poV (ksP N.1)) (ksP N.1).length (cgN (ksP N.1))) (bn_put (81 + 2) 4 (nI (eH (enB (ksB N.1)) (ksT N.1) + 1)).toInt64 (bn_put 81 2 1 g7)))) 0 (103 + (cgX (ksP N.1) (cgN (ksP N.1))).length)) (hoE H)) ll fr kn := hcR.t (H := (hot H (cutL (g7) 0 (hoT H).length) (hoE H))) hR8 hf9 (by rw [cutL_len]; exact va_up_self _ _ _) ⟨_, hz_mne (va_up_self _ _ _) (by decide), isA_cut _ _ _⟩
      have h569 : (va_up (va_up M8 56 (.inl (1, 4000, .inl (bn_put (81 + 14) 8 (ky_a sd) (bn_put (81 + 6) 8 ((nI (subS (eH (enB (ksB N.1)) (ksT N.1) + 1))).toInt64 + cgF (poV (ksP N.1)) (ksP N.1).length (cgN (ksP N.1))) (bn_put (81 + 2) 4 (nI (eH (enB (ksB N.1)) (ksT N.1) + 1)).toInt64 (bn_put 81 2 1 g7))))))) 8 (.inr (11, [.ref 9, .ref 13, .ref 20, .ref 25, .ref 39, .ref 45, .ref 55, .ref 56, .int (nI (103 + (cgX (ksP N.1) (cgN (ksP N.1))).length)), .int (hoE H), .ref 57, .ref 58, .ref 61]))) 56 = .inl (1, 4000, .inl (bn_put (81 + 14) 8 (ky_a sd) (bn_put (81 + 6) 8 ((nI (subS (eH (enB (ksB N.1)) (ksT N.1) + 1))).toInt64 + cgF (poV (ksP N.1)) (ksP N.1).length (cgN (ksP N.1))) (bn_put (81 + 2) 4 (nI (eH (enB (ksB N.1)) (ksT N.1) + 1)).toInt64 (bn_put 81 2 1 g7))))) := hz_mne (va_up_self _ _ _) (by decide)
      have hH9 : (va_up (va_up M8 56 (.inl (1, 4000, .inl (bn_put (81 + 14) 8 (ky_a sd) (bn_put (81 + 6) 8 ((nI (subS (eH (enB (ksB N.1)) (ksT N.1) + 1))).toInt64 + cgF (poV (ksP N.1)) (ksP N.1).length (cgN (ksP N.1))) (bn_put (81 + 2) 4 (nI (eH (enB (ksB N.1)) (ksT N.1) + 1)).toInt64 (bn_put 81 2 1 g7))))))) 8 (.inr (11, [.ref 9, .ref 13, .ref 20, .ref 25, .ref 39, .ref 45, .ref 55, .ref 56, .int (nI (103 + (cgX (ksP N.1) (cgN (ksP N.1))).length)), .int (hoE H), .ref 57, .ref 58, .ref 61]))) 8 = hoO (103 + (cgX (ksP N.1) (cgN (ksP N.1))).length) (hoE H) := va_up_self _ _ _
      have hfz9 : frS [(8, 63 + 34 * (hoN H).length)] M (va_up (va_up M8 56 (.inl (1, 4000, .inl (bn_put (81 + 14) 8 (ky_a sd) (bn_put (81 + 6) 8 ((nI (subS (eH (enB (ksB N.1)) (ksT N.1) + 1))).toInt64 + cgF (poV (ksP N.1)) (ksP N.1).length (cgN (ksP N.1))) (bn_put (81 + 2) 4 (nI (eH (enB (ksB N.1)) (ksT N.1) + 1)).toInt64 (bn_put 81 2 1 g7))))))) 8 (.inr (11, [.ref 9, .ref 13, .ref 20, .ref 25, .ref 39, .ref 45, .ref 55, .ref 56, .int (nI (103 + (cgX (ksP N.1) (cgN (ksP N.1))).length)), .int (hoE H), .ref 57, .ref 58, .ref 61]))) := hfz8.tr (hf9.mono (fun q (h9 : outS [(8, 63 + 34 * (hoN H).length)] q) => ⟨by have r := h9.1; omega, by have r := h9.1; omega, trivial⟩))
      have hTl : (asN N tm sd).length = 103 + (cgX (ksP N.1) (cgN (ksP N.1))).length := asT_len _ _ _ _ _ _ _ _
      have hTW : blW (asN N tm sd) := asT_W hI.2.2.2.1 (tm_nn (midE_pos hwf (by omega)) htm) (by omega)
      have hTe : ∀ j, j < (asN N tm sd).length → ¬ (32 ≤ j ∧ j < 64) → lf (cutL (bn_put (81 + 14) 8 (ky_a sd) (bn_put (81 + 6) 8 ((nI (subS (eH (enB (ksB N.1)) (ksT N.1) + 1))).toInt64 + cgF (poV (ksP N.1)) (ksP N.1).length (cgN (ksP N.1))) (bn_put (81 + 2) 4 (nI (eH (enB (ksB N.1)) (ksT N.1) + 1)).toInt64 (bn_put 81 2 1 g7)))) 0 (103 + (cgX (ksP N.1) (cgN (ksP N.1))).length)) j = lf (asN N tm sd) j := by
        intro j hj hn9
        rw [hTl] at hj
        rw [lf_cutL hj, Nat.zero_add]
        rcases (show j < 103 ∨ 103 ≤ j by omega) with c | c
        · rw [asG_f hG7 h80 j c hn9]; exact (asT_h c).symm
        · rw [bn_put_out _ _ _ _ (by omega), bn_put_out _ _ _ _ (by omega), bn_put_out _ _ _ _ (by omega), bn_put_out _ _ _ _ (by omega)]
          have q1 := hX7 (j - 103) (by omega)
          have q2 := asT_x (hh := haS (bBy (ksB N.1) (ksT N.1))) (tm := tm) (bits := dueE (enB (ksB N.1)) (ksT N.1)) (n := cgN (ksP N.1)) (ht := eH (enB (ksB N.1)) (ksT N.1) + 1) (am := ((nI (subS (eH (enB (ksB N.1)) (ksT N.1) + 1))).toInt64 + cgF (poV (ksP N.1)) (ksP N.1).length (cgN (ksP N.1)))) (ad := ky_a sd) (po := (ksP N.1)) (j - 103) (by omega)
          rw [show 103 + (j - 103) = j by omega] at q1 q2
          exact q1.trans q2.symm
      have hT1l : (cutL (bn_put (81 + 14) 8 (ky_a sd) (bn_put (81 + 6) 8 ((nI (subS (eH (enB (ksB N.1)) (ksT N.1) + 1))).toInt64 + cgF (poV (ksP N.1)) (ksP N.1).length (cgN (ksP N.1))) (bn_put (81 + 2) 4 (nI (eH (enB (ksB N.1)) (ksT N.1) + 1)).toInt64 (bn_put 81 2 1 g7)))) 0 (103 + (cgX (ksP N.1) (cgN (ksP N.1))).length)).length = (asN N tm sd).length := by rw [cutL_len, hTl]
      have ebk := (bk_32 hT1l hTe).1
      have erp := rp_32 hT1l hTW hTe
      generalize (va_up (va_up M8 56 (.inl (1, 4000, .inl (bn_put (81 + 14) 8 (ky_a sd) (bn_put (81 + 6) 8 ((nI (subS (eH (enB (ksB N.1)) (ksT N.1) + 1))).toInt64 + cgF (poV (ksP N.1)) (ksP N.1).length (cgN (ksP N.1))) (bn_put (81 + 2) 4 (nI (eH (enB (ksB N.1)) (ksT N.1) + 1)).toInt64 (bn_put 81 2 1 g7))))))) 8 (.inr (11, [.ref 9, .ref 13, .ref 20, .ref 25, .ref 39, .ref 45, .ref 55, .ref 56, .int (nI (103 + (cgX (ksP N.1) (cgN (ksP N.1))).length)), .int (hoE H), .ref 57, .ref 58, .ref 61]))) = M9 at *
      generalize bn_put (81 + 14) 8 (ky_a sd) (bn_put (81 + 6) 8 ((nI (subS (eH (enB (ksB N.1)) (ksT N.1) + 1))).toInt64 + cgF (poV (ksP N.1)) (ksP N.1).length (cgN (ksP N.1))) (bn_put (81 + 2) 4 (nI (eH (enB (ksB N.1)) (ksT N.1) + 1)).toInt64 (bn_put 81 2 1 g7))) = g9 at *
      have hJ9 := hR9.2.2.2.1
      obtain ⟨bf9, fe9, hj9⟩ := id hJ9.1
      refine hz_aloadn (pc := 285) 5 (hz_dec kX11_assemble 140 rfl) rfl ?_
      refine hz_get (pc := 286) (hz_dec kX11_assemble 141 rfl) fo_X11_46 hH9 (by omega) (by omega) rfl ?_
      refine hz_aloadn (pc := 289) 5 (hz_dec kX11_assemble 142 rfl) rfl ?_
      refine hz_get (pc := 290) (hz_dec kX11_assemble 143 rfl) fo_X11_72 hH9 (by omega) (by omega) rfl ?_
      refine hz_aloadn (pc := 293) 5 (hz_dec kX11_assemble 144 rfl) rfl ?_
      refine hz_get (pc := 294) (hz_dec kX11_assemble 145 rfl) fo_X11_124 hH9 (by omega) (by omega) rfl ?_
      have hcp := c_putRoot (κ := κ) hJ9 h569 (by decide) (by omega) (by decide) (isA_cut g9 0 (103 + (cgX (ksP N.1) (cgN (ksP N.1))).length)) (by rw [cutL_len]; omega)
      rw [cutL_len] at hcp
      refine hz_callV (pc := 297) (a := 25) (As := [.ref 56, .int (nI (103 + (cgX (ksP N.1) (cgN (ksP N.1))).length))]) (st := []) (hz_dec kX11_assemble 146 rfl) co_X11_270 im_X3_putRoot se_X3_putRoot rfl hj9 (by omega) (by omega) (hcp) rfl (by decide) ⟨Nat.le_refl _, Nat.le_refl _⟩ (Nat.le_of_ble_eq_true rfl) rfl (fun r9 z9 MA hp9 => ?_)
      obtain ⟨rfl, rfl, hfA, hJA, gA, h56A, hAA, -⟩ := hp9
      rw [if_neg (show ¬ bkN (cutL g9 0 (103 + (cgX (ksP N.1) (cgN (ksP N.1))).length)) = 0 by rw [ebk]; exact hTW), erp] at hAA
      have hfA2 : frS [(8, 39), (56, 57)] M9 MA := hfA.mono (fun q (h9 : outS [(8, 39), (56, 57)] q) => ⟨by have r := h9.1; omega, by have r := h9.1; omega, by have r := h9.1; omega, h9.2.1, trivial⟩)
      have hHA : MA 8 = hoO (103 + (cgX (ksP N.1) (cgN (ksP N.1))).length) (hoE H) := (hfA.at4 (by omega)).trans hH9
      have hRA : hcR MA z (hot H (rpS (asN N tm sd)) (hoE H)) ll fr kn := hcR.jt (H := hot H (cutL g9 0 (103 + (cgX (ksP N.1) (cgN (ksP N.1))).length)) (hoE H)) hR9 hfA2 (by rw [rpS_len, hTl]; exact hHA) hJA ⟨gA, h56A, hAA⟩
      refine hz_pop (pc := 300) (hz_dec kX11_assemble 147 rfl) rfl ?_
      refine hz_aloadn (pc := 301) 5 (hz_dec kX11_assemble 148 rfl) rfl ?_
      refine hz_get (pc := 302) (hz_dec kX11_assemble 149 rfl) fo_X11_124 hHA (by omega) (by omega) rfl ?_
      exact hz_iret (pc := 305) (hz_dec kX11_assemble 150 rfl) rfl ⟨by rw [hTl], rfl, hfz9.tr (hfA2.mono (fun q (h9 : outS [(8, 63 + 34 * (hoN H).length)] q) => ⟨by have r := h9.1; omega, by have r := h9.1; omega, trivial⟩)), ll, fr, kn, hRA⟩
    · skip
      exact absurd htm h1
  · skip
    exact absurd hq1 (by decide)
