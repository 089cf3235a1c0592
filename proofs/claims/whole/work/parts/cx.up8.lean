/-! up: the reference, whole -/
theorem hoS_S {H : ho_H} {v : Nat} {N N2 : nd_N} : hoS (hoS H v N (hoQ H)) v N2 (hoQ H) = hoS H v N2 (hoQ H) := by
  show (((hoN H).set v N).set v N2, hoQ H, hoW H, hoD H, hoT H, hoI H, hoU H, hoE H) = ((hoN H).set v N2, hoQ H, hoW H, hoD H, hoT H, hoI H, hoU H, hoE H)
  rw [List.set_set]
theorem upR_k : ∀ m S, ksF (upR m S) = ksF S ∧ ksD (upR m S) = ksD S ∧ ksP (upR m S) = ksP S ∧ ksL (upR m S) = ksL S ∧ ksQ (upR m S) = ksQ S := by
  intro m
  induction m with
  | zero => intro S; exact ⟨rfl, rfl, rfl, rfl, rfl⟩
  | succ m ih =>
    intro S
    unfold upR
    by_cases c : rdO S = true
    · rw [if_pos c]; exact ih (rdS S)
    · rw [if_neg c]; exact ⟨rfl, rfl, rfl, rfl, rfl⟩
theorem upN_e (N : nd_N) : upN N = (upK N, true, N.2.2) := by
  obtain ⟨h1, h2, h3, h4, h5⟩ := upR_k 112 (up0 N.1)
  have e : upK N = (ksB (upK N), ksT (upK N), ksN (upK N), ksF (upK N), ksD (upK N), ksP (upK N), ksL (upK N), ksQ (upK N)) := rfl
  unfold upN
  rw [e]
  unfold upK
  rw [h1, h2, h3, h4, h5]
  rfl
theorem ex_w (cn : Int32) (v : Nat) : ∃ w, w < 6 ∧ w ≠ v ∧ ¬ cn = nI w := by
  by_cases a : v = 0
  · by_cases b : cn = nI 1
    · exact ⟨2, by decide, by omega, fun c => by rw [b] at c; exact absurd c (by decide)⟩
    · exact ⟨1, by decide, by omega, b⟩
  · by_cases b : cn = nI 0
    · by_cases d : v = 1
      · exact ⟨2, by decide, by omega, fun c => by rw [b] at c; exact absurd c (by decide)⟩
      · exact ⟨1, by decide, by omega, fun c => by rw [b] at c; exact absurd c (by decide)⟩
    · exact ⟨0, by decide, by omega, b⟩
theorem ag16 {M M2 : hz_M} {B v : Nat} (f : mfr B [54] [16] M M2) (h16 : ∀ x, ¬ x = v → fA M2 B 16 x = fA M B 16 x) : agV M M2 B v := by
  intro u hu
  refine agN.of f (fun p hp e => ?_) (fun p hp e => ?_)
  · have hs : agS.all (fun p => decide (p.1 = 16 → p.2 = 1)) = true := by decide
    have r : p.1 = 16 := by simpa using e
    have s := of_decide_eq_true (List.all_eq_true.mp hs p hp) r
    intro j hj
    rw [r]; rw [s] at hj ⊢; exact h16 _ (by omega)
  · have r := List.all_eq_true.mp (show agL.all (fun p => !([16] : List Nat).elem p.1) = true from rfl) p hp
    rw [e] at r
    cases r
set_option maxHeartbeats 4000000 in
set_option maxRecDepth 100000 in
theorem c_rup_l {κ : hz_C} {z B : Nat} {M0 : hz_M} {H : ho_H} (hnn : (hoN H).length ≤ 6) (hX : hoX H) {v : Nat} (hv : v < (hoN H).length) {N : nd_N} (hN : ndL (hoN H) v = N) : ∀ m S M, (ksB S).length + m = 113 → frM B M0 M → hmR M z B (hoS H v (S, true, N.2.2) (hoQ H)) → ksI S → upR m S = upK N → hz_W κ xX12_up 11 0 0 (hmP M0 z B (.int (nI (ksB (upK N)).length)) (hoS H v (upN N) (hoQ H))) 0 0 46 [(0, .ref B), (1, .int (nI v))] [] z M := by
  intro m
  induction m with
  | zero =>
    intro S M hk hf hR hI hE
    have hl : (hoN (hoS H v (S, true, N.2.2) (hoQ H))).length = (hoN H).length := List.length_set
    have hN2 : ndL (hoN (hoS H v (S, true, N.2.2) (hoQ H))) v = (S, true, N.2.2) := by rw [show ndL (hoN (hoS H v (S, true, N.2.2) (hoQ H))) v = if v = v then (S, true, N.2.2) else ndL (hoN H) v from ndL_set hv v, if_pos rfl]
    obtain ⟨hk1, hE1, hmg1, hNd1, -⟩ := id hR
    obtain ⟨⟨fs, hO, hF⟩, -, -, h8, hz⟩ := id hk1
    have hv2 : v < (hoN (hoS H v (S, true, N.2.2) (hoQ H))).length := by rw [hl]; exact hv
    refine hz_aloadn (pc := 46) 0 (hz_dec kX12_up 28 rfl) rfl ?_
    refine hz_iloadn (pc := 47) 1 (hz_dec kX12_up 29 rfl) rfl ?_
    refine hz_callV (pc := 48) (a := B) (As := [.int (nI v)]) (st := []) (hz_dec kX12_up 30 rfl) co_X12_718 im_X12_readRecord se_X12_readRecord rfl hO h8 (by omega) (c_rrd (by rw [hl]; exact hnn) hR hv2 hN2 rfl hI) rfl (by decide) ⟨Nat.le_refl _, Nat.le_refl _⟩ (Nat.le_of_ble_eq_true rfl) rfl (fun r9 z9 M2 hp9 => ?_)
    obtain ⟨rfl, rfl, hf2, hE2_, hag2, hcw2, hyes, hno⟩ := hp9
    have hEs : rdO S = false → S = upK N := fun _ => hE
    refine hz_if_eq (pc := 51) (tgt := 62) (hz_dec kX12_up 31 rfl) (by decide) (fun h1 => ?_) (fun h1 => ?_)
    · skip
      have e0 := hz_b0 h1
      have hR2 := hno e0
      have hE2 : S = upK N := hEs e0
      have hE4 : mdE M2 B := hR2.2.1
      obtain ⟨fs2, hO2, hF2⟩ := id hf2.2.1
      have h0 : mdN M2 B v (S, true, N.2.2) := by have q := hR2.2.2.2.1 v hv2; rw [hN2] at q; exact q
      have q20 : fA M2 B 20 v = nI (ksB S).length := h0.1.2.2.2.2.1.2.1.1
      have hv6 : v < 6 := by omega
      refine hz_aloadn (pc := 62) 0 (hz_dec kX12_up 36 rfl) rfl ?_
      refine hz_get (pc := 63) (v := .ref (B + 20)) (hz_dec kX12_up 37 rfl) fo_X12_71 hO2 h8 (by omega) (hF2.2 22 (by decide) (by decide)) ?_
      refine hz_iloadn (pc := 66) 1 (hz_dec kX12_up 38 rfl) rfl ?_
      refine hz_iald (pc := 67) (j := v) (hz_dec kX12_up 39 rfl) hE4.a20 (by omega) (by omega) rfl (by omega) (by decide) ?_
      refine hz_eqi (pc := 68) q20 ?_
      exact hz_iret (pc := 68) (hz_dec kX12_up 40 rfl) rfl ⟨by rw [← hE2], rfl, hf.tr (hf2.S rfl), by rw [upN_e, ← hE2]; exact hR2⟩
    · skip
      have hq := (rd_I hI.1 (hz_b1 h1) hI.2.1).1.top.2.1
      have hq2 : (ksB (rdS S)).length = (ksB S).length + 1 := bl_len1 _ _
      exact absurd hk (by omega)
  | succ m ih =>
    intro S M hk hf hR hI hE
    have hl : (hoN (hoS H v (S, true, N.2.2) (hoQ H))).length = (hoN H).length := List.length_set
    have hN2 : ndL (hoN (hoS H v (S, true, N.2.2) (hoQ H))) v = (S, true, N.2.2) := by rw [show ndL (hoN (hoS H v (S, true, N.2.2) (hoQ H))) v = if v = v then (S, true, N.2.2) else ndL (hoN H) v from ndL_set hv v, if_pos rfl]
    obtain ⟨hk1, hE1, hmg1, hNd1, -⟩ := id hR
    obtain ⟨⟨fs, hO, hF⟩, -, -, h8, hz⟩ := id hk1
    have hv2 : v < (hoN (hoS H v (S, true, N.2.2) (hoQ H))).length := by rw [hl]; exact hv
    refine hz_aloadn (pc := 46) 0 (hz_dec kX12_up 28 rfl) rfl ?_
    refine hz_iloadn (pc := 47) 1 (hz_dec kX12_up 29 rfl) rfl ?_
    refine hz_callV (pc := 48) (a := B) (As := [.int (nI v)]) (st := []) (hz_dec kX12_up 30 rfl) co_X12_718 im_X12_readRecord se_X12_readRecord rfl hO h8 (by omega) (c_rrd (by rw [hl]; exact hnn) hR hv2 hN2 rfl hI) rfl (by decide) ⟨Nat.le_refl _, Nat.le_refl _⟩ (Nat.le_of_ble_eq_true rfl) rfl (fun r9 z9 M2 hp9 => ?_)
    obtain ⟨rfl, rfl, hf2, hE2_, hag2, hcw2, hyes, hno⟩ := hp9
    have hEs : rdO S = false → S = upK N := fun e0 => (show upR (m + 1) S = S from if_neg (by rw [e0]; decide)).symm.trans hE
    refine hz_if_eq (pc := 51) (tgt := 62) (hz_dec kX12_up 31 rfl) (by decide) (fun h1 => ?_) (fun h1 => ?_)
    · skip
      have e0 := hz_b0 h1
      have hR2 := hno e0
      have hE2 : S = upK N := hEs e0
      have hE4 : mdE M2 B := hR2.2.1
      obtain ⟨fs2, hO2, hF2⟩ := id hf2.2.1
      have h0 : mdN M2 B v (S, true, N.2.2) := by have q := hR2.2.2.2.1 v hv2; rw [hN2] at q; exact q
      have q20 : fA M2 B 20 v = nI (ksB S).length := h0.1.2.2.2.2.1.2.1.1
      have hv6 : v < 6 := by omega
      refine hz_aloadn (pc := 62) 0 (hz_dec kX12_up 36 rfl) rfl ?_
      refine hz_get (pc := 63) (v := .ref (B + 20)) (hz_dec kX12_up 37 rfl) fo_X12_71 hO2 h8 (by omega) (hF2.2 22 (by decide) (by decide)) ?_
      refine hz_iloadn (pc := 66) 1 (hz_dec kX12_up 38 rfl) rfl ?_
      refine hz_iald (pc := 67) (j := v) (hz_dec kX12_up 39 rfl) hE4.a20 (by omega) (by omega) rfl (by omega) (by decide) ?_
      refine hz_eqi (pc := 68) q20 ?_
      exact hz_iret (pc := 68) (hz_dec kX12_up 40 rfl) rfl ⟨by rw [← hE2], rfl, hf.tr (hf2.S rfl), by rw [upN_e, ← hE2]; exact hR2⟩
    · skip
      have e1 := hz_b1 h1
      obtain ⟨y1, y2, y3, y4, y5, y6, y7, y8, y9, y10⟩ := hyes e1
      have hq := rd_I hI.1 e1 hI.2.1
      have hq2 : (ksB (rdS S)).length = (ksB S).length + 1 := bl_len1 _ _
      obtain ⟨fs2, hO2, hF2⟩ := id hf2.2.1
      have hv6 : v < 6 := by omega
      refine hz_aloadn (pc := 54) 0 (hz_dec kX12_up 32 rfl) rfl ?_
      refine hz_iconst (pc := 55) (v := (-1)) (hz_dec kX12_up 33 rfl) (by decide) ?_
      refine hz_puti (pc := 56) (hz_dec kX12_up 34 rfl) fo_X12_158 ft_X12_54 hO2 h8 (by omega) (by rw [hF2.1]; decide) ?_
      have hf3 : mfr B [54] [] M2 (va_up M2 B (.inr (12, (List.set fs2 54 (.int (-1)))))) := (mfr.rf hf2.2.1).upO (k := 54) hO2 hF2 rfl rfl
      have hE3 : mdE (va_up M2 B (.inr (12, (List.set fs2 54 (.int (-1)))))) B := hE2_.upO
      have p54 : fdB (va_up M2 B (.inr (12, (List.set fs2 54 (.int (-1)))))) B 54 = some (.int (-1)) := by rw [fdB_of (va_up_self _ _ _), List.getElem?_set_self (by rw [hF2.1]; decide)]
      generalize (va_up M2 B (.inr (12, (List.set fs2 54 (.int (-1)))))) = M3 at *
      have h0 : mdN M B v (S, true, N.2.2) := by have q := hNd1 v hv2; rw [hN2] at q; exact q
      obtain ⟨cn, cb, cc1, cc2, -⟩ := h0.1.2.2.2.2.2.2.1
      obtain ⟨w9, hw9, hwv9, hwc9⟩ := ex_w cn v
      obtain ⟨-, cb2, -, hcb2_, -⟩ := hcw2 w9 [] [] hw9 hwv9 ⟨cn, cb, cc1, cc2, fun c => absurd c hwc9⟩
      have hcb2 : fdB M3 B 55 = some (.int cb2) := (hf3.2.2 55 rfl).trans hcb2_
      have hm03 : mfr B [16, 39, 53, 54, 55, 59, 61] [3, 4, 5, 6, 7, 8, 9, 10, 11, 12, 13, 14, 15, 18, 20, 21, 24, 25, 26, 27, 28, 29, 30, 31, 32, 33, 35, 36, 42, 43, 44, 45, 46, 47, 48, 49, 50, 51, 52, 53, 68] M M3 := hf2.tr (hf3.mono rfl rfl)
      have hcw3 : cvW M M3 B v := cvW.no p54 hcb2
      have hN3 : mdN M3 B v (rdS S, true, N.2.2) := ⟨⟨by rw [fA_m hf3 (by decide) rfl]; exact y1, by rw [fA_m hf3 (by decide) rfl]; exact y2, by rw [fA_m hf3 (by decide) rfl]; exact y3, by rw [fA_m hf3 (by decide) rfl]; exact y4, y5.mf hf3 rfl, y6.mf hf3 rfl, cvX_no hv6 p54 hcb2, by unfold mnP; rw [fA_m hf3 (by decide) rfl]; exact y7⟩, y8.mf hf3 rfl, by rw [fA_m hf3 (by decide) rfl]; exact y9, by rw [fA_m hf3 (by decide) rfl]; exact y10⟩
      have hIw : ∀ w, w < (hoN (hoS H v (S, true, N.2.2) (hoQ H))).length → ksI (ndL (hoN (hoS H v (S, true, N.2.2) (hoQ H))) w).1 := fun w hw => by rw [hl] at hw; rw [show ndL (hoN (hoS H v (S, true, N.2.2) (hoQ H))) w = if w = v then (S, true, N.2.2) else ndL (hoN H) w from ndL_set hv w]; by_cases c : w = v; rw [if_pos c]; exact hI; rw [if_neg c]; exact hX.1 w hw
      have hR3 : hmR M3 z B (hoS H v (rdS S, true, N.2.2) (hoQ H)) := by have q := hR.put (by rw [hl]; exact hnn) hv2 hIw hm03 rfl rfl rfl rfl rfl rfl rfl rfl rfl rfl rfl rfl rfl hE3 (hag2.tr (agV.mf hf3 rfl rfl)) hcw3 (q := hoQ H) (hmg1.mf hm03 rfl rfl) hN3; rw [show hoS (hoS H v (S, true, N.2.2) (hoQ H)) v (rdS S, true, N.2.2) (hoQ H) = hoS H v (rdS S, true, N.2.2) (hoQ H) from hoS_S] at q; exact q
      have hI3 : ksI (rdS S) := ⟨hq.1, hq.2, hI.2.2.1, hI.2.2.2.1, hI.2.2.2.2⟩
      refine hz_goto (pc := 59) (tgt := 46) (hz_dec kX12_up 35 rfl) (by decide) ?_
      refine hz_pick (pc := 46) [0, 1] rfl ?_
      exact ih (rdS S) M3 (by omega) (hf.tr (hm03.S rfl)) hR3 hI3 ((show upR (m + 1) S = upR m (rdS S) from if_pos e1).symm.trans hE)
set_option maxHeartbeats 4000000 in
set_option maxRecDepth 100000 in
theorem c_rup {κ : hz_C} {z B : Nat} {M : hz_M} {H : ho_H} (hnn : (hoN H).length ≤ 6) (hT4 : (hoT H).length ≤ 4000) (hR : hmR M z B H) {v : Nat} (hv : v < (hoN H).length) {N : nd_N} (hN : ndL (hoN H) v = N) (hup : N.2.1 = false) (hI : ksI N.1) (hX : hoX H) {F : by_L} (hFm : fiM M B F) (hFo : hoF F H) : hz_Mt κ xX12_up 11 0 0 [.ref B, .int (nI v)] z M (hmP M z B (.int (nI (ksB (upK N)).length)) (hoS H v (upN N) (hoQ H))) := by
  refine hz_ent (lo := [(0, .ref B), (1, .int (nI v))]) (by decide) (Nat.le_of_ble_eq_true rfl) rfl ?_
  obtain ⟨hk0_, hE0, ⟨m1, m2, m3⟩, hNd, a5, a6, a7, a8⟩ := id hR
  obtain ⟨⟨fs, hO, hF⟩, -, -, h8, hz⟩ := id hk0_
  obtain ⟨x1, x3, x4, x5, x6, x7, x8⟩ := id m3
  have eSt : stI (ndL (hoN H) v).2.1 = (-2) := by rw [hN, hup]; rfl
  refine hz_aloadn (pc := 0) 0 (hz_dec kX12_up 0 rfl) rfl ?_
  refine hz_iconst (pc := 1) (v := nI 0) (hz_dec kX12_up 1 rfl) (by decide) ?_
  refine hz_puti (pc := 2) (hz_dec kX12_up 2 rfl) fo_X12_302 ft_X12_0 hO h8 (by omega) (by rw [hF.1]; decide) ?_
  have hf1 : mfr B [0, 89] [] M (va_up M B (.inr (12, (List.set fs 0 (.int (nI 0)))))) := (mfr.rf ⟨fs, hO, hF⟩).upO (k := 0) hO hF rfl rfl
  have hR1 : hmR (va_up M B (.inr (12, (List.set fs 0 (.int (nI 0)))))) z B H := hR.m0 hf1 hE0.upO ((fdB_of (va_up_self _ _ _) 89).trans ((List.getElem?_set_ne (by decide)).trans ((fdB_of hO 89).symm.trans x8)))
  generalize (va_up M B (.inr (12, (List.set fs 0 (.int (nI 0)))))) = M1 at *
  obtain ⟨hk1, hE1, ⟨n1, d1, q1⟩, hNd1, a51, a61, a71, a81⟩ := id hR1
  obtain ⟨⟨fs1, hO1, hF1⟩, -, -, -, -⟩ := id hk1
  refine hz_aloadn (pc := 5) 0 (hz_dec kX12_up 3 rfl) rfl ?_
  refine hz_iloadn (pc := 6) 1 (hz_dec kX12_up 4 rfl) rfl ?_
  refine hz_xV (pc := 7) (a := B) (As := [.int (nI v)]) (st := []) (hz_dec kX12_up 5 rfl) co_X12_692 im_X12_stateOf se_X12_stateOf rfl hO1 h8 (by omega) (c_st hnn hR1 hv) rfl (by decide) ⟨Nat.le_refl _, Nat.le_refl _⟩ (Nat.le_of_ble_eq_true rfl) rfl ?_
  refine hz_eqi (pc := 10) eSt ?_
  refine hz_istoren (pc := 10) (i := 2) (lo2 := [(2, .int (-2)), (0, .ref B), (1, .int (nI v))]) (hz_dec kX12_up 6 rfl) rfl (by decide) rfl ?_
  refine hz_iloadn (pc := 11) 0 (hz_dec kX12_up 7 rfl) rfl ?_
  refine hz_bipush (pc := 12) (v := (-2)) (hz_dec kX12_up 8 rfl) (by decide) ?_
  refine hz_icmp_eq (pc := 14) (tgt := 29) (hz_dec kX12_up 9 rfl) (by decide) (fun hq9 => ?_) (fun hq9 => ?_)
  · skip
    have hFB : bkL (ksB N.1) 0 = fiB F := by have q := hFo v hv; rw [hN] at q; exact q
    have hF1m : fiM M1 B F := hFm.mf hf1 rfl rfl
    have h0 : mdN M1 B v N := by have q := hNd1 v hv; rw [hN] at q; exact q
    have hv6 : v < 6 := by omega
    have hbF : bBy (ksB N.1) 0 = F := by unfold bBy; rw [hFB]; rfl
    have hWF : blW F := by rw [← hbF]; exact hI.1.2.2.2.2.2.1 0 hI.1.1
    have hlF : F.length = 103 := by rw [← hbF]; exact hI.1.2.1
    have hRtF0 := (hI.1.2.2.2.2.1 0 (by rw [enB_len]; exact hI.1.1)).2.2.2
    have eB0 : eB (enB (ksB N.1)) 0 = bn_int (lf F) 68 := by unfold eB; rw [enL_B hI.1.1, hFB]; rfl
    have hRtF : tgR (bn_int (lf F) 68) = true := by rw [← eB0]; exact hRtF0
    refine hz_aloadn (pc := 29) 1 (hz_dec kX12_up 17 rfl) rfl ?_
    refine hz_get (pc := 30) (v := .ref (B + 16)) (hz_dec kX12_up 18 rfl) fo_X12_57 hO1 h8 (by omega) (hF1.2 18 (by decide) (by decide)) ?_
    refine hz_iloadn (pc := 33) 2 (hz_dec kX12_up 19 rfl) rfl ?_
    refine hz_iconst (pc := 34) (v := nI 1) (hz_dec kX12_up 20 rfl) (by decide) ?_
    refine hz_zast (pc := 35) (j := v) (hz_dec kX12_up 21 rfl) hE1.a16 (by omega) (by omega) rfl (by omega) (by decide) (Or.inr rfl) ?_
    refine hz_aloadn (pc := 36) 1 (hz_dec kX12_up 22 rfl) rfl ?_
    refine hz_iconst (pc := 37) (v := (-1)) (hz_dec kX12_up 23 rfl) (by decide) ?_
    refine hz_puti (pc := 38) (hz_dec kX12_up 24 rfl) fo_X12_158 ft_X12_54 (hz_mne hO1 (by omega)) h8 (by omega) (by rw [hF1.1]; decide) ?_
    have hf2 : mfr B [54] [16] M1 (va_up (va_up M1 (B + 16) (.inl (3, 6, .inl (upd (fA M1 B 16) v ((nI (1))))))) B (.inr (12, (List.set fs1 54 (.int (-1)))))) := (((mfr.rf (ks := [54]) (os := [16]) hk1.1).upA (o := 16) rfl (by decide)).upO (k := 54) (hz_mne hO1 (by omega)) hF1 rfl rfl)
    have hE2 : mdE (va_up (va_up M1 (B + 16) (.inl (3, 6, .inl (upd (fA M1 B 16) v ((nI (1))))))) B (.inr (12, (List.set fs1 54 (.int (-1)))))) B := ((hE1.upA (k := 16) (t := 3) (n := 6) (by decide)).upO)
    have p54 : fdB (va_up (va_up M1 (B + 16) (.inl (3, 6, .inl (upd (fA M1 B 16) v ((nI (1))))))) B (.inr (12, (List.set fs1 54 (.int (-1)))))) B 54 = some (.int (-1)) := by rw [fdB_of (va_up_self _ _ _), List.getElem?_set_self (by rw [hF1.1]; decide)]
    have p16 : fA (va_up (va_up M1 (B + 16) (.inl (3, 6, .inl (upd (fA M1 B 16) v ((nI (1))))))) B (.inr (12, (List.set fs1 54 (.int (-1)))))) B 16 v = 1 := by rw [fA_of (hz_mne (va_up_self _ _ _) (by omega)), upd_s]; rfl
    have hag2 : agV M1 (va_up (va_up M1 (B + 16) (.inl (3, 6, .inl (upd (fA M1 B 16) v ((nI (1))))))) B (.inr (12, (List.set fs1 54 (.int (-1)))))) B v := ag16 hf2 (fun x hx => by rw [fA_of (hz_mne (va_up_self _ _ _) (by omega))]; exact upd_o (by omega))
    generalize (va_up (va_up M1 (B + 16) (.inl (3, 6, .inl (upd (fA M1 B 16) v ((nI (1))))))) B (.inr (12, (List.set fs1 54 (.int (-1)))))) = M2 at *
    obtain ⟨fs2, hO2, hF2⟩ := id hf2.2.1
    refine hz_aloadn (pc := 41) 1 (hz_dec kX12_up 25 rfl) rfl ?_
    refine hz_iloadn (pc := 42) 2 (hz_dec kX12_up 26 rfl) rfl ?_
    refine hz_callV (pc := 43) (a := B) (As := [.int (nI v)]) (st := []) (hz_dec kX12_up 27 rfl) co_X12_298 im_X12_keepFirst se_X12_keepFirst rfl hO2 h8 (by omega) (c_kF (hk1.mf hf2 rfl rfl) hE2 hv6 (hF1m.mf hf2 rfl rfl) hWF (by omega) hRtF) rfl (by decide) ⟨Nat.le_refl _, Nat.le_refl _⟩ (Nat.le_of_ble_eq_true rfl) rfl (fun r9 z9 M3 hp9 => ?_)
    obtain ⟨rfl, rfl, hf3, hE3, hag3, hmn3, q18, q24⟩ := hp9
    have hm13 : mfr B [16, 39, 54] [3, 4, 5, 7, 10, 11, 12, 13, 14, 16, 18, 20, 21, 24, 25, 26, 27, 28, 29, 30, 31, 32, 33, 35, 36] M1 M3 := (hf2.mono rfl rfl).tr (hf3.mono rfl rfl)
    have p543 := (hf3.2.2 54 rfl).trans p54
    obtain ⟨z1, z2, z3, z4, z5, z6, ⟨cn, cb, cc1, cc2, -⟩, z9⟩ := h0.1
    have p553 : fdB M3 B 55 = some (.int cb) := (hm13.2.2 55 rfl).trans cc2
    have z4b : fA M1 B 19 v = -1 := by have q := z4; rw [hup] at q; exact q
    have z6b : poX (fA M1 B) (fL M1 B) v [] := by have q := z6; rw [hup] at q; exact q
    have z7b : orX (fA M1 B) v [] := by have q := h0.2.1; rw [hup] at q; exact q
    have eB1 : ksB (up0 N.1) = [fiB F] := by show [bkL (ksB N.1) 0] = [fiB F]; rw [hFB]
    have hmn3b : mnB M3 B v (ksB (up0 N.1)) (enB (ksB (up0 N.1))) 0 := by rw [eB1]; exact hmn3
    have hmp3 : mnP M3 B v (ksB (up0 N.1)) 0 := by rw [eB1]; intro k hk; rw [one_0 hk]; exact Or.inl q24
    have hN3 : mdN M3 B v (up0 N.1, true, N.2.2) := ⟨⟨by rw [fA_m hf3 (by decide) rfl]; exact p16, by rw [fA_m hm13 (by decide) rfl]; exact z2, q18, by rw [fA_m hm13 (by decide) rfl]; exact z4b, hmn3b, z6b.mf hm13 rfl, cvX_no hv6 p543 p553, hmp3⟩, z7b.mf hm13 rfl, by rw [fA_m hm13 (by decide) rfl]; exact h0.2.2.1, by rw [fA_m hm13 (by decide) rfl]; exact h0.2.2.2⟩
    have hR3 : hmR M3 z B (hoS H v (up0 N.1, true, N.2.2) (hoQ H)) := hR1.put hnn hv hX.1 hm13 rfl rfl rfl rfl rfl rfl rfl rfl rfl rfl rfl rfl rfl hE3 (hag2.tr hag3) (cvW.no p543 p553) (q := hoQ H) (hR1.2.2.1.mf hm13 rfl rfl) hN3
    have hI3 : ksI (up0 N.1) := ⟨hI.1.one, Nat.zero_lt_one, (fun _ c => nomatch c), poW_nil, ⟨Nat.zero_le _, fun k hk => absurd hk (Nat.not_lt_zero k)⟩⟩
    refine hz_pick (pc := 46) [1, 2] rfl ?_
    exact c_rup_l hnn hX hv hN 112 (up0 N.1) M3 rfl ((hf1.S rfl).tr (hm13.S rfl)) hR3 hI3 rfl
  · skip
    exact absurd rfl hq9
