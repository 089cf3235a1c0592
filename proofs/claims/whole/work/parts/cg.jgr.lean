/-! judge, give, root -/
theorem hcR.jt {M M2 : hz_M} {z : Nat} {H : ho_H} {ll : Nat} {fr kn : Int32} (h : hcR M z H ll fr kn) (f : frS [(8, 39), (56, 57)] M M2) {T : by_L} {e : Int32} (h8n : M2 8 = hoO T.length e) (hj : juS M2 z) (h56n : ∃ g : Nat → Int32, M2 56 = .inl (1, 4000, .inl g) ∧ isA g 0 T) : hcR M2 z (hot H T e) ll fr kn := by
  obtain ⟨h1, ⟨fN, n1, n2⟩, h3, h4, ⟨h45, hQ, fd, d1, d2⟩, ⟨g6, h6⟩, ⟨L, h7⟩, ⟨g8, h8⟩, ⟨g9, h9⟩, ⟨g56, h56, hT56⟩, hdf⟩ := h
  exact ⟨h8n, ⟨fN, (f.at2 (by omega)).trans n1, n2⟩, fun v hv => (h3 v hv).fr (fun q q1 q2 => f.at2 (by omega)), hj, ⟨(f.at2 (by omega)).trans h45, hQ.fr (fun q q1 q2 => f.at2 (by omega)), fd, (f.at2 (by omega)).trans d1, d2⟩, ⟨g6, (f.at2 (by omega)).trans h6⟩, ⟨L, h7.fr (fun q q1 q2 => f.at2 (by omega))⟩, ⟨g8, (f.at2 (by omega)).trans h8⟩, ⟨g9, (f.at2 (by omega)).trans h9⟩, h56n, hdf.fr (fun q q1 q2 => f.at2 (by omega))⟩
theorem hcR.jn {M M2 : hz_M} {z : Nat} {H : ho_H} {ll : Nat} {fr kn : Int32} (h : hcR M z H ll fr kn) {v : Nat} (hv : v < (hoN H).length) {N : nd_N} (hN : ndL (hoN H) v = N) (f : frS [(9, 39), (63 + 34 * v, 63 + 34 * v + 34)] M M2) (hj : juS M2 z) (hn : ndR M2 (63 + 34 * v) v N) : hcR M2 z H ll fr kn := by
  obtain ⟨h1, ⟨fN, n1, n2⟩, h3, h4, ⟨h45, hQ, fd, d1, d2⟩, ⟨g6, h6⟩, ⟨L, h7⟩, ⟨g8, h8⟩, ⟨g9, h9⟩, ⟨g56, h56, hT56⟩, hdf⟩ := h
  refine ⟨(f.at2 (by omega)).trans h1, ⟨fN, (f.at2 (by omega)).trans n1, n2⟩, fun w hw => ?_, hj, ⟨(f.at2 (by omega)).trans h45, hQ.fr (fun q q1 q2 => f.at2 (by omega)), fd, (f.at2 (by omega)).trans d1, d2⟩, ⟨g6, (f.at2 (by omega)).trans h6⟩, ⟨L, h7.fr (fun q q1 q2 => f.at2 (by omega))⟩, ⟨g8, (f.at2 (by omega)).trans h8⟩, ⟨g9, (f.at2 (by omega)).trans h9⟩, ⟨g56, (f.at2 (by omega)).trans h56, hT56⟩, hdf.fr (fun q q1 q2 => f.at2 (by omega))⟩
  by_cases c : w = v
  · rw [c, hN]; exact hn
  · exact (h3 w hw).fr (fun q q1 q2 => f.at2 (by omega))
theorem cvK_all {M M2 : hz_M} {z B v : Nat} {H : ho_H} {N : nd_N} (hR : hmR M z B H) (hnn : (hoN H).length ≤ 6) (hN : ndL (hoN H) v = N) (h : cvK M M2 B v (ksB N.1) (enB (ksB N.1))) : ∀ w, w < (hoN H).length → cvX M2 B w (ksB (ndL (hoN H) w).1) (enB (ksB (ndL (hoN H) w).1)) := fun w hw => h w _ _ (by omega) (fun c => by rw [c, hN]; exact ⟨rfl, rfl⟩) (hR.2.2.2.1 w hw).1.2.2.2.2.2.2.1
theorem tkB_v {nn : Nat} {dl : Nat → Nat} {now : Int32} {v : Nat} {fr : Int32} {d : Nat} {S : ks_S} {l : by_L} : (tkB nn dl now v fr d S l).2.2 = if (tkB nn dl now v fr d S l).2.1 = true then nI (ksJ S l) else -2 := by
  unfold tkB
  by_cases c : ksJ S l = 0
  · rw [if_pos c, c]
  · rw [if_neg c]
    by_cases c2 : ksJ S l = 6
    · rw [if_pos c2, c2]; rfl
    · rw [if_neg c2]; rfl
set_option maxHeartbeats 4000000 in
set_option maxRecDepth 100000 in
theorem c_judgeN {κ : hz_C} {z : Nat} {M : hz_M} {H : ho_H} (hz : 63 + 34 * (hoN H).length ≤ z) (hnn : (hoN H).length ≤ 6) (hT4 : (hoT H).length ≤ 4000) {ll : Nat} {fr kn : Int32} (hR : hcR M z H ll fr kn) {v kd : Int32} (hv : v < 0 ∨ ¬ v < nI (hoN H).length) : hz_Mt κ xX11_judge 6 0 0 [.ref 8, .int v, .int kd] z M (hcP M z H (.int (-1)) H) := by
  refine hz_ent (lo := [(0, .ref 8), (1, .int v), (2, .int kd)]) (by decide) (Nat.le_of_ble_eq_true rfl) rfl ?_
  have hH := hR.1
  have hNs := hR.2.1
  obtain ⟨hO, hQ, hD⟩ := id hR.2.2.2.2.1
  obtain ⟨g53, h53⟩ := hR.2.2.2.2.2.1
  have hJ := hR.2.2.2.1
  obtain ⟨g56, h56, hT56⟩ := hR.2.2.2.2.2.2.2.2.2.1
  have hdf := hR.2.2.2.2.2.2.2.2.2.2
  have hck : ck_k M z := hJ.2.2.2.2.2.2.2.1
  have hcs : ck_s M := hJ.2.2.2.2.2.2.2.2.1
  have hz63 : 63 ≤ z := by omega
  refine hz_aloadn (pc := 0) 0 (hz_dec kX11_judge 0 rfl) rfl ?_
  refine hz_iloadn (pc := 1) 1 (hz_dec kX11_judge 1 rfl) rfl ?_
  refine hz_xV (pc := 2) (a := 8) (As := [.int v]) (st := []) (hz_dec kX11_judge 2 rfl) co_X11_162 im_X11_nodeOf se_X11_nodeOf rfl hH (by omega) (by omega) (c_nOfN hz63 hH hnn hNs hv) rfl (by decide) ⟨Nat.le_refl _, Nat.le_refl _⟩ (Nat.le_of_ble_eq_true rfl) rfl ?_
  refine hz_astorenN (pc := 5) (i := 3) (lo2 := [(3, .null), (0, .ref 8), (1, .int v), (2, .int kd)]) (hz_dec kX11_judge 3 rfl) rfl (by decide) rfl ?_
  refine hz_aloadnN (pc := 6) 0 (hz_dec kX11_judge 4 rfl) rfl ?_
  refine hz_ifnullN (pc := 7) (tgt := 21) (hz_dec kX11_judge 5 rfl) (by decide) ?_
  refine hz_iconst (pc := 21) (v := (-1)) (hz_dec kX11_judge 12 rfl) (by decide) ?_
  exact hz_iret (pc := 22) (hz_dec kX11_judge 13 rfl) rfl (hcP.no hR _)
set_option maxHeartbeats 4000000 in
set_option maxRecDepth 100000 in
theorem c_rjudgeN5 {κ : hz_C} {z B : Nat} {M : hz_M} {H : ho_H} (hnn : (hoN H).length ≤ 6) (hT4 : (hoT H).length ≤ 4000) (hR : hmR M z B H) {v : Int32} (hv : v < 0 ∨ ¬ v < nI (hoN H).length) : hz_Mt κ xX12_judge 10 0 0 [.ref B, .int v, .int (nI 5)] z M (hmP M z B (.int (-1)) H) := by
  refine hz_ent (lo := [(0, .ref B), (1, .int v), (2, .int (nI 5))]) (by decide) (Nat.le_of_ble_eq_true rfl) rfl ?_
  obtain ⟨hk0_, hE0, ⟨m1, m2, m3⟩, hNd, a5, a6, a7, a8⟩ := id hR
  obtain ⟨⟨fs, hO, hF⟩, -, -, h8, hz⟩ := id hk0_
  obtain ⟨x1, x3, x4, x5, x6, x7, x8⟩ := id m3
  refine hz_aloadn (pc := 0) 0 (hz_dec kX12_judge 0 rfl) rfl ?_
  refine hz_iconst (pc := 1) (v := nI 0) (hz_dec kX12_judge 1 rfl) (by decide) ?_
  refine hz_puti (pc := 2) (hz_dec kX12_judge 2 rfl) fo_X12_302 ft_X12_0 hO h8 (by omega) (by rw [hF.1]; decide) ?_
  have hf1 : mfr B [0, 89] [] M (va_up M B (.inr (12, (List.set fs 0 (.int (nI 0)))))) := (mfr.rf ⟨fs, hO, hF⟩).upO (k := 0) hO hF rfl rfl
  have hR1 : hmR (va_up M B (.inr (12, (List.set fs 0 (.int (nI 0)))))) z B H := hR.m0 hf1 hE0.upO ((fdB_of (va_up_self _ _ _) 89).trans ((List.getElem?_set_ne (by decide)).trans ((fdB_of hO 89).symm.trans x8)))
  generalize (va_up M B (.inr (12, (List.set fs 0 (.int (nI 0)))))) = M1 at *
  obtain ⟨hk1, hE1, ⟨n1, d1, q1⟩, hNd1, a51, a61, a71, a81⟩ := id hR1
  obtain ⟨⟨fs1, hO1, hF1⟩, -, -, -, -⟩ := id hk1
  refine hz_iloadn (pc := 5) 2 (hz_dec kX12_judge 3 rfl) rfl ?_
  refine hz_iconst (pc := 6) (v := nI 5) (hz_dec kX12_judge 4 rfl) (by decide) ?_
  refine hz_n_eq (pc := 7) (tgt := 18) (hz_dec kX12_judge 5 rfl) (by decide) (by omega) (by omega) (fun hq1 => ?_) (fun hq1 => ?_)
  · skip
    refine hz_aloadn (pc := 18) 0 (hz_dec kX12_judge 11 rfl) rfl ?_
    refine hz_iloadn (pc := 19) 1 (hz_dec kX12_judge 12 rfl) rfl ?_
    refine hz_xV (pc := 20) (a := B) (As := [.int v]) (st := []) (hz_dec kX12_judge 13 rfl) co_X12_692 im_X12_stateOf se_X12_stateOf rfl hO1 h8 (by omega) (c_stN hnn hR1 hv) rfl (by decide) ⟨Nat.le_refl _, Nat.le_refl _⟩ (Nat.le_of_ble_eq_true rfl) rfl ?_
    refine hz_istoren (pc := 23) (i := 3) (lo2 := [(3, .int (-1)), (0, .ref B), (1, .int v), (2, .int (nI 5))]) (hz_dec kX12_judge 14 rfl) rfl (by decide) rfl ?_
    refine hz_iloadn (pc := 24) 0 (hz_dec kX12_judge 15 rfl) rfl ?_
    refine hz_if_ge (pc := 25) (tgt := 30) (hz_dec kX12_judge 16 rfl) (by decide) (fun hq2 => ?_) (fun hq2 => ?_)
    · skip
      exact absurd hq2 (by decide)
    · skip
      refine hz_iloadn (pc := 28) 0 (hz_dec kX12_judge 17 rfl) rfl ?_
      exact hz_iret (pc := 29) (hz_dec kX12_judge 18 rfl) rfl ⟨rfl, rfl, hf1.S rfl, hR1⟩
  · skip
    exact absurd hq1 (by decide)
set_option maxHeartbeats 4000000 in
set_option maxRecDepth 100000 in
theorem c_rjudgeN6 {κ : hz_C} {z B : Nat} {M : hz_M} {H : ho_H} (hnn : (hoN H).length ≤ 6) (hT4 : (hoT H).length ≤ 4000) (hR : hmR M z B H) {v : Int32} (hv : v < 0 ∨ ¬ v < nI (hoN H).length) : hz_Mt κ xX12_judge 10 0 0 [.ref B, .int v, .int (nI 6)] z M (hmP M z B (.int (-1)) H) := by
  refine hz_ent (lo := [(0, .ref B), (1, .int v), (2, .int (nI 6))]) (by decide) (Nat.le_of_ble_eq_true rfl) rfl ?_
  obtain ⟨hk0_, hE0, ⟨m1, m2, m3⟩, hNd, a5, a6, a7, a8⟩ := id hR
  obtain ⟨⟨fs, hO, hF⟩, -, -, h8, hz⟩ := id hk0_
  obtain ⟨x1, x3, x4, x5, x6, x7, x8⟩ := id m3
  refine hz_aloadn (pc := 0) 0 (hz_dec kX12_judge 0 rfl) rfl ?_
  refine hz_iconst (pc := 1) (v := nI 0) (hz_dec kX12_judge 1 rfl) (by decide) ?_
  refine hz_puti (pc := 2) (hz_dec kX12_judge 2 rfl) fo_X12_302 ft_X12_0 hO h8 (by omega) (by rw [hF.1]; decide) ?_
  have hf1 : mfr B [0, 89] [] M (va_up M B (.inr (12, (List.set fs 0 (.int (nI 0)))))) := (mfr.rf ⟨fs, hO, hF⟩).upO (k := 0) hO hF rfl rfl
  have hR1 : hmR (va_up M B (.inr (12, (List.set fs 0 (.int (nI 0)))))) z B H := hR.m0 hf1 hE0.upO ((fdB_of (va_up_self _ _ _) 89).trans ((List.getElem?_set_ne (by decide)).trans ((fdB_of hO 89).symm.trans x8)))
  generalize (va_up M B (.inr (12, (List.set fs 0 (.int (nI 0)))))) = M1 at *
  obtain ⟨hk1, hE1, ⟨n1, d1, q1⟩, hNd1, a51, a61, a71, a81⟩ := id hR1
  obtain ⟨⟨fs1, hO1, hF1⟩, -, -, -, -⟩ := id hk1
  refine hz_iloadn (pc := 5) 2 (hz_dec kX12_judge 3 rfl) rfl ?_
  refine hz_iconst (pc := 6) (v := nI 5) (hz_dec kX12_judge 4 rfl) (by decide) ?_
  refine hz_n_eq (pc := 7) (tgt := 18) (hz_dec kX12_judge 5 rfl) (by decide) (by omega) (by omega) (fun hq1 => ?_) (fun hq1 => ?_)
  · skip
    exact absurd hq1 (by decide)
  · skip
    refine hz_iloadn (pc := 10) 2 (hz_dec kX12_judge 6 rfl) rfl ?_
    refine hz_bipush (pc := 11) (v := nI 6) (hz_dec kX12_judge 7 rfl) (by decide) ?_
    refine hz_n_eq (pc := 13) (tgt := 18) (hz_dec kX12_judge 8 rfl) (by decide) (by omega) (by omega) (fun hq2 => ?_) (fun hq2 => ?_)
    · skip
      refine hz_aloadn (pc := 18) 0 (hz_dec kX12_judge 11 rfl) rfl ?_
      refine hz_iloadn (pc := 19) 1 (hz_dec kX12_judge 12 rfl) rfl ?_
      refine hz_xV (pc := 20) (a := B) (As := [.int v]) (st := []) (hz_dec kX12_judge 13 rfl) co_X12_692 im_X12_stateOf se_X12_stateOf rfl hO1 h8 (by omega) (c_stN hnn hR1 hv) rfl (by decide) ⟨Nat.le_refl _, Nat.le_refl _⟩ (Nat.le_of_ble_eq_true rfl) rfl ?_
      refine hz_istoren (pc := 23) (i := 3) (lo2 := [(3, .int (-1)), (0, .ref B), (1, .int v), (2, .int (nI 6))]) (hz_dec kX12_judge 14 rfl) rfl (by decide) rfl ?_
      refine hz_iloadn (pc := 24) 0 (hz_dec kX12_judge 15 rfl) rfl ?_
      refine hz_if_ge (pc := 25) (tgt := 30) (hz_dec kX12_judge 16 rfl) (by decide) (fun hq3 => ?_) (fun hq3 => ?_)
      · skip
        exact absurd hq3 (by decide)
      · skip
        refine hz_iloadn (pc := 28) 0 (hz_dec kX12_judge 17 rfl) rfl ?_
        exact hz_iret (pc := 29) (hz_dec kX12_judge 18 rfl) rfl ⟨rfl, rfl, hf1.S rfl, hR1⟩
    · skip
      exact absurd hq2 (by decide)
set_option maxHeartbeats 4000000 in
set_option maxRecDepth 100000 in
theorem c_judgeK {κ : hz_C} {z : Nat} {M : hz_M} {H : ho_H} (hz : 63 + 34 * (hoN H).length ≤ z) (hnn : (hoN H).length ≤ 6) (hT4 : (hoT H).length ≤ 4000) {ll : Nat} {fr kn : Int32} (hR : hcR M z H ll fr kn) {v : Nat} (hv : v < (hoN H).length) {N : nd_N} (hN : ndL (hoN H) v = N) {kd : Int32} (hkd : ¬ kd = nI 5) (hkd6 : ¬ kd = nI 6) : hz_Mt κ xX11_judge 6 0 0 [.ref 8, .int (nI v), .int kd] z M (hcP M z H (.int (-1)) H) := by
  refine hz_ent (lo := [(0, .ref 8), (1, .int (nI v)), (2, .int kd)]) (by decide) (Nat.le_of_ble_eq_true rfl) rfl ?_
  have hH := hR.1
  have hNs := hR.2.1
  obtain ⟨hO, hQ, hD⟩ := id hR.2.2.2.2.1
  obtain ⟨g53, h53⟩ := hR.2.2.2.2.2.1
  have hJ := hR.2.2.2.1
  obtain ⟨g56, h56, hT56⟩ := hR.2.2.2.2.2.2.2.2.2.1
  have hdf := hR.2.2.2.2.2.2.2.2.2.2
  have hck : ck_k M z := hJ.2.2.2.2.2.2.2.1
  have hcs : ck_s M := hJ.2.2.2.2.2.2.2.2.1
  have hz63 : 63 ≤ z := by omega
  have hK := hR.2.2.1 v hv
  rw [hN] at hK
  obtain ⟨hn, ⟨gd, hgd, hgD⟩, hT, hC, hP, hL⟩ := id hK
  refine hz_aloadn (pc := 0) 0 (hz_dec kX11_judge 0 rfl) rfl ?_
  refine hz_iloadn (pc := 1) 1 (hz_dec kX11_judge 1 rfl) rfl ?_
  refine hz_xV (pc := 2) (a := 8) (As := [.int (nI v)]) (st := []) (hz_dec kX11_judge 2 rfl) co_X11_162 im_X11_nodeOf se_X11_nodeOf rfl hH (by omega) (by omega) (c_nOf hz63 hH hnn hNs (b := v) hv) rfl (by decide) ⟨Nat.le_refl _, Nat.le_refl _⟩ (Nat.le_of_ble_eq_true rfl) rfl ?_
  refine hz_astoren (pc := 5) (i := 3) (lo2 := [(3, .ref (63 + 34 * v)), (0, .ref 8), (1, .int (nI v)), (2, .int kd)]) (hz_dec kX11_judge 3 rfl) rfl (by decide) rfl ?_
  refine hz_aloadn (pc := 6) 0 (hz_dec kX11_judge 4 rfl) rfl ?_
  refine hz_ifnull (pc := 7) (hz_dec kX11_judge 5 rfl) ?_
  refine hz_iloadn (pc := 10) 3 (hz_dec kX11_judge 6 rfl) rfl ?_
  refine hz_iconst (pc := 11) (v := nI 5) (hz_dec kX11_judge 7 rfl) (by decide) ?_
  refine hz_icmp_eq (pc := 12) (tgt := 23) (hz_dec kX11_judge 8 rfl) (by decide) (fun h1 => ?_) (fun h1 => ?_)
  · skip
    exact absurd h1 hkd
  · skip
    refine hz_iloadn (pc := 15) 3 (hz_dec kX11_judge 9 rfl) rfl ?_
    refine hz_bipush (pc := 16) (v := nI 6) (hz_dec kX11_judge 10 rfl) (by decide) ?_
    refine hz_icmp_eq (pc := 18) (tgt := 23) (hz_dec kX11_judge 11 rfl) (by decide) (fun h2 => ?_) (fun h2 => ?_)
    · skip
      exact absurd h2 hkd6
    · skip
      refine hz_iconst (pc := 21) (v := (-1)) (hz_dec kX11_judge 12 rfl) (by decide) ?_
      exact hz_iret (pc := 22) (hz_dec kX11_judge 13 rfl) rfl (hcP.no hR _)
set_option maxHeartbeats 4000000 in
set_option maxRecDepth 100000 in
theorem c_rjudgeK {κ : hz_C} {z B : Nat} {M : hz_M} {H : ho_H} (hnn : (hoN H).length ≤ 6) (hT4 : (hoT H).length ≤ 4000) (hR : hmR M z B H) {v kd : Int32} (hkd : ¬ kd = nI 5) (hkd6 : ¬ kd = nI 6) : hz_Mt κ xX12_judge 10 0 0 [.ref B, .int v, .int kd] z M (hmP M z B (.int (-1)) H) := by
  refine hz_ent (lo := [(0, .ref B), (1, .int v), (2, .int kd)]) (by decide) (Nat.le_of_ble_eq_true rfl) rfl ?_
  obtain ⟨hk0_, hE0, ⟨m1, m2, m3⟩, hNd, a5, a6, a7, a8⟩ := id hR
  obtain ⟨⟨fs, hO, hF⟩, -, -, h8, hz⟩ := id hk0_
  obtain ⟨x1, x3, x4, x5, x6, x7, x8⟩ := id m3
  refine hz_aloadn (pc := 0) 0 (hz_dec kX12_judge 0 rfl) rfl ?_
  refine hz_iconst (pc := 1) (v := nI 0) (hz_dec kX12_judge 1 rfl) (by decide) ?_
  refine hz_puti (pc := 2) (hz_dec kX12_judge 2 rfl) fo_X12_302 ft_X12_0 hO h8 (by omega) (by rw [hF.1]; decide) ?_
  have hf1 : mfr B [0, 89] [] M (va_up M B (.inr (12, (List.set fs 0 (.int (nI 0)))))) := (mfr.rf ⟨fs, hO, hF⟩).upO (k := 0) hO hF rfl rfl
  have hR1 : hmR (va_up M B (.inr (12, (List.set fs 0 (.int (nI 0)))))) z B H := hR.m0 hf1 hE0.upO ((fdB_of (va_up_self _ _ _) 89).trans ((List.getElem?_set_ne (by decide)).trans ((fdB_of hO 89).symm.trans x8)))
  generalize (va_up M B (.inr (12, (List.set fs 0 (.int (nI 0)))))) = M1 at *
  obtain ⟨hk1, hE1, ⟨n1, d1, q1⟩, hNd1, a51, a61, a71, a81⟩ := id hR1
  obtain ⟨⟨fs1, hO1, hF1⟩, -, -, -, -⟩ := id hk1
  refine hz_iloadn (pc := 5) 2 (hz_dec kX12_judge 3 rfl) rfl ?_
  refine hz_iconst (pc := 6) (v := nI 5) (hz_dec kX12_judge 4 rfl) (by decide) ?_
  refine hz_icmp_eq (pc := 7) (tgt := 18) (hz_dec kX12_judge 5 rfl) (by decide) (fun h1 => ?_) (fun h1 => ?_)
  · skip
    exact absurd h1 hkd
  · skip
    refine hz_iloadn (pc := 10) 2 (hz_dec kX12_judge 6 rfl) rfl ?_
    refine hz_bipush (pc := 11) (v := nI 6) (hz_dec kX12_judge 7 rfl) (by decide) ?_
    refine hz_icmp_eq (pc := 13) (tgt := 18) (hz_dec kX12_judge 8 rfl) (by decide) (fun h2 => ?_) (fun h2 => ?_)
    · skip
      exact absurd h2 hkd6
    · skip
      refine hz_iconst (pc := 16) (v := (-1)) (hz_dec kX12_judge 9 rfl) (by decide) ?_
      exact hz_iret (pc := 17) (hz_dec kX12_judge 10 rfl) rfl ⟨rfl, rfl, hf1.S rfl, hR1⟩
set_option maxHeartbeats 4000000 in
set_option maxRecDepth 100000 in
theorem c_judgeD5 {κ : hz_C} {z : Nat} {M : hz_M} {H : ho_H} (hz : 63 + 34 * (hoN H).length ≤ z) (hnn : (hoN H).length ≤ 6) (hT4 : (hoT H).length ≤ 4000) {ll : Nat} {fr kn : Int32} (hR : hcR M z H ll fr kn) {v : Nat} (hv : v < (hoN H).length) {N : nd_N} (hN : ndL (hoN H) v = N) (hup : N.2.1 = false) : hz_Mt κ xX11_judge 6 0 0 [.ref 8, .int (nI v), .int (nI 5)] z M (hcP M z H (.int (-2)) H) := by
  refine hz_ent (lo := [(0, .ref 8), (1, .int (nI v)), (2, .int (nI 5))]) (by decide) (Nat.le_of_ble_eq_true rfl) rfl ?_
  have hH := hR.1
  have hNs := hR.2.1
  obtain ⟨hO, hQ, hD⟩ := id hR.2.2.2.2.1
  obtain ⟨g53, h53⟩ := hR.2.2.2.2.2.1
  have hJ := hR.2.2.2.1
  obtain ⟨g56, h56, hT56⟩ := hR.2.2.2.2.2.2.2.2.2.1
  have hdf := hR.2.2.2.2.2.2.2.2.2.2
  have hck : ck_k M z := hJ.2.2.2.2.2.2.2.1
  have hcs : ck_s M := hJ.2.2.2.2.2.2.2.2.1
  have hz63 : 63 ≤ z := by omega
  have hK := hR.2.2.1 v hv
  rw [hN] at hK
  obtain ⟨hn, ⟨gd, hgd, hgD⟩, hT, hC, hP, hL⟩ := id hK
  have hn : M (63 + 34 * v) = ndO (63 + 34 * v) (nI v) (nI 0) (nI (ksN N.1)) (pvI (ksF N.1)) N.2.2.1 N.2.2.2 := by rw [hup] at hn; exact hn
  refine hz_aloadn (pc := 0) 0 (hz_dec kX11_judge 0 rfl) rfl ?_
  refine hz_iloadn (pc := 1) 1 (hz_dec kX11_judge 1 rfl) rfl ?_
  refine hz_xV (pc := 2) (a := 8) (As := [.int (nI v)]) (st := []) (hz_dec kX11_judge 2 rfl) co_X11_162 im_X11_nodeOf se_X11_nodeOf rfl hH (by omega) (by omega) (c_nOf hz63 hH hnn hNs (b := v) hv) rfl (by decide) ⟨Nat.le_refl _, Nat.le_refl _⟩ (Nat.le_of_ble_eq_true rfl) rfl ?_
  refine hz_astoren (pc := 5) (i := 3) (lo2 := [(3, .ref (63 + 34 * v)), (0, .ref 8), (1, .int (nI v)), (2, .int (nI 5))]) (hz_dec kX11_judge 3 rfl) rfl (by decide) rfl ?_
  refine hz_aloadn (pc := 6) 0 (hz_dec kX11_judge 4 rfl) rfl ?_
  refine hz_ifnull (pc := 7) (hz_dec kX11_judge 5 rfl) ?_
  refine hz_iloadn (pc := 10) 3 (hz_dec kX11_judge 6 rfl) rfl ?_
  refine hz_iconst (pc := 11) (v := nI 5) (hz_dec kX11_judge 7 rfl) (by decide) ?_
  refine hz_n_eq (pc := 12) (tgt := 23) (hz_dec kX11_judge 8 rfl) (by decide) (by omega) (by omega) (fun hq1 => ?_) (fun hq1 => ?_)
  · skip
    refine hz_aloadn (pc := 23) 0 (hz_dec kX11_judge 14 rfl) rfl ?_
    refine hz_get (pc := 24) (hz_dec kX11_judge 15 rfl) fo_X11_166 hn (by omega) (by omega) rfl ?_
    refine hz_z_ne (pc := 27) (tgt := 33) (hz_dec kX11_judge 16 rfl) (by decide) (by omega) (fun hq2 => ?_) (fun hq2 => ?_)
    · skip
      exact absurd hq2 (by decide)
    · skip
      refine hz_bipush (pc := 30) (v := (-2)) (hz_dec kX11_judge 17 rfl) (by decide) ?_
      exact hz_iret (pc := 32) (hz_dec kX11_judge 18 rfl) rfl (hcP.no hR _)
  · skip
    exact absurd hq1 (by decide)
set_option maxHeartbeats 4000000 in
set_option maxRecDepth 100000 in
theorem c_rjudgeD5 {κ : hz_C} {z B : Nat} {M : hz_M} {H : ho_H} (hnn : (hoN H).length ≤ 6) (hT4 : (hoT H).length ≤ 4000) (hR : hmR M z B H) {v : Nat} (hv : v < (hoN H).length) {N : nd_N} (hN : ndL (hoN H) v = N) (hup : N.2.1 = false) : hz_Mt κ xX12_judge 10 0 0 [.ref B, .int (nI v), .int (nI 5)] z M (hmP M z B (.int (-2)) H) := by
  refine hz_ent (lo := [(0, .ref B), (1, .int (nI v)), (2, .int (nI 5))]) (by decide) (Nat.le_of_ble_eq_true rfl) rfl ?_
  obtain ⟨hk0_, hE0, ⟨m1, m2, m3⟩, hNd, a5, a6, a7, a8⟩ := id hR
  obtain ⟨⟨fs, hO, hF⟩, -, -, h8, hz⟩ := id hk0_
  obtain ⟨x1, x3, x4, x5, x6, x7, x8⟩ := id m3
  have eSt : stI (ndL (hoN H) v).2.1 = (-2) := by rw [hN, hup]; rfl
  refine hz_aloadn (pc := 0) 0 (hz_dec kX12_judge 0 rfl) rfl ?_
  refine hz_iconst (pc := 1) (v := nI 0) (hz_dec kX12_judge 1 rfl) (by decide) ?_
  refine hz_puti (pc := 2) (hz_dec kX12_judge 2 rfl) fo_X12_302 ft_X12_0 hO h8 (by omega) (by rw [hF.1]; decide) ?_
  have hf1 : mfr B [0, 89] [] M (va_up M B (.inr (12, (List.set fs 0 (.int (nI 0)))))) := (mfr.rf ⟨fs, hO, hF⟩).upO (k := 0) hO hF rfl rfl
  have hR1 : hmR (va_up M B (.inr (12, (List.set fs 0 (.int (nI 0)))))) z B H := hR.m0 hf1 hE0.upO ((fdB_of (va_up_self _ _ _) 89).trans ((List.getElem?_set_ne (by decide)).trans ((fdB_of hO 89).symm.trans x8)))
  generalize (va_up M B (.inr (12, (List.set fs 0 (.int (nI 0)))))) = M1 at *
  obtain ⟨hk1, hE1, ⟨n1, d1, q1⟩, hNd1, a51, a61, a71, a81⟩ := id hR1
  obtain ⟨⟨fs1, hO1, hF1⟩, -, -, -, -⟩ := id hk1
  refine hz_iloadn (pc := 5) 2 (hz_dec kX12_judge 3 rfl) rfl ?_
  refine hz_iconst (pc := 6) (v := nI 5) (hz_dec kX12_judge 4 rfl) (by decide) ?_
  refine hz_n_eq (pc := 7) (tgt := 18) (hz_dec kX12_judge 5 rfl) (by decide) (by omega) (by omega) (fun hq1 => ?_) (fun hq1 => ?_)
  · skip
    refine hz_aloadn (pc := 18) 0 (hz_dec kX12_judge 11 rfl) rfl ?_
    refine hz_iloadn (pc := 19) 1 (hz_dec kX12_judge 12 rfl) rfl ?_
    refine hz_xV (pc := 20) (a := B) (As := [.int (nI v)]) (st := []) (hz_dec kX12_judge 13 rfl) co_X12_692 im_X12_stateOf se_X12_stateOf rfl hO1 h8 (by omega) (c_st hnn hR1 hv) rfl (by decide) ⟨Nat.le_refl _, Nat.le_refl _⟩ (Nat.le_of_ble_eq_true rfl) rfl ?_
    refine hz_eqi (pc := 23) eSt ?_
    refine hz_istoren (pc := 23) (i := 3) (lo2 := [(3, .int (-2)), (0, .ref B), (1, .int (nI v)), (2, .int (nI 5))]) (hz_dec kX12_judge 14 rfl) rfl (by decide) rfl ?_
    refine hz_iloadn (pc := 24) 0 (hz_dec kX12_judge 15 rfl) rfl ?_
    refine hz_if_ge (pc := 25) (tgt := 30) (hz_dec kX12_judge 16 rfl) (by decide) (fun hq2 => ?_) (fun hq2 => ?_)
    · skip
      exact absurd hq2 (by decide)
    · skip
      refine hz_iloadn (pc := 28) 0 (hz_dec kX12_judge 17 rfl) rfl ?_
      exact hz_iret (pc := 29) (hz_dec kX12_judge 18 rfl) rfl ⟨rfl, rfl, hf1.S rfl, hR1⟩
  · skip
    exact absurd hq1 (by decide)
set_option maxHeartbeats 4000000 in
set_option maxRecDepth 100000 in
theorem c_judgeD6 {κ : hz_C} {z : Nat} {M : hz_M} {H : ho_H} (hz : 63 + 34 * (hoN H).length ≤ z) (hnn : (hoN H).length ≤ 6) (hT4 : (hoT H).length ≤ 4000) {ll : Nat} {fr kn : Int32} (hR : hcR M z H ll fr kn) {v : Nat} (hv : v < (hoN H).length) {N : nd_N} (hN : ndL (hoN H) v = N) (hup : N.2.1 = false) : hz_Mt κ xX11_judge 6 0 0 [.ref 8, .int (nI v), .int (nI 6)] z M (hcP M z H (.int (-2)) H) := by
  refine hz_ent (lo := [(0, .ref 8), (1, .int (nI v)), (2, .int (nI 6))]) (by decide) (Nat.le_of_ble_eq_true rfl) rfl ?_
  have hH := hR.1
  have hNs := hR.2.1
  obtain ⟨hO, hQ, hD⟩ := id hR.2.2.2.2.1
  obtain ⟨g53, h53⟩ := hR.2.2.2.2.2.1
  have hJ := hR.2.2.2.1
  obtain ⟨g56, h56, hT56⟩ := hR.2.2.2.2.2.2.2.2.2.1
  have hdf := hR.2.2.2.2.2.2.2.2.2.2
  have hck : ck_k M z := hJ.2.2.2.2.2.2.2.1
  have hcs : ck_s M := hJ.2.2.2.2.2.2.2.2.1
  have hz63 : 63 ≤ z := by omega
  have hK := hR.2.2.1 v hv
  rw [hN] at hK
  obtain ⟨hn, ⟨gd, hgd, hgD⟩, hT, hC, hP, hL⟩ := id hK
  have hn : M (63 + 34 * v) = ndO (63 + 34 * v) (nI v) (nI 0) (nI (ksN N.1)) (pvI (ksF N.1)) N.2.2.1 N.2.2.2 := by rw [hup] at hn; exact hn
  refine hz_aloadn (pc := 0) 0 (hz_dec kX11_judge 0 rfl) rfl ?_
  refine hz_iloadn (pc := 1) 1 (hz_dec kX11_judge 1 rfl) rfl ?_
  refine hz_xV (pc := 2) (a := 8) (As := [.int (nI v)]) (st := []) (hz_dec kX11_judge 2 rfl) co_X11_162 im_X11_nodeOf se_X11_nodeOf rfl hH (by omega) (by omega) (c_nOf hz63 hH hnn hNs (b := v) hv) rfl (by decide) ⟨Nat.le_refl _, Nat.le_refl _⟩ (Nat.le_of_ble_eq_true rfl) rfl ?_
  refine hz_astoren (pc := 5) (i := 3) (lo2 := [(3, .ref (63 + 34 * v)), (0, .ref 8), (1, .int (nI v)), (2, .int (nI 6))]) (hz_dec kX11_judge 3 rfl) rfl (by decide) rfl ?_
  refine hz_aloadn (pc := 6) 0 (hz_dec kX11_judge 4 rfl) rfl ?_
  refine hz_ifnull (pc := 7) (hz_dec kX11_judge 5 rfl) ?_
  refine hz_iloadn (pc := 10) 3 (hz_dec kX11_judge 6 rfl) rfl ?_
  refine hz_iconst (pc := 11) (v := nI 5) (hz_dec kX11_judge 7 rfl) (by decide) ?_
  refine hz_n_eq (pc := 12) (tgt := 23) (hz_dec kX11_judge 8 rfl) (by decide) (by omega) (by omega) (fun hq1 => ?_) (fun hq1 => ?_)
  · skip
    exact absurd hq1 (by decide)
  · skip
    refine hz_iloadn (pc := 15) 3 (hz_dec kX11_judge 9 rfl) rfl ?_
    refine hz_bipush (pc := 16) (v := nI 6) (hz_dec kX11_judge 10 rfl) (by decide) ?_
    refine hz_n_eq (pc := 18) (tgt := 23) (hz_dec kX11_judge 11 rfl) (by decide) (by omega) (by omega) (fun hq2 => ?_) (fun hq2 => ?_)
    · skip
      refine hz_aloadn (pc := 23) 0 (hz_dec kX11_judge 14 rfl) rfl ?_
      refine hz_get (pc := 24) (hz_dec kX11_judge 15 rfl) fo_X11_166 hn (by omega) (by omega) rfl ?_
      refine hz_z_ne (pc := 27) (tgt := 33) (hz_dec kX11_judge 16 rfl) (by decide) (by omega) (fun hq3 => ?_) (fun hq3 => ?_)
      · skip
        exact absurd hq3 (by decide)
      · skip
        refine hz_bipush (pc := 30) (v := (-2)) (hz_dec kX11_judge 17 rfl) (by decide) ?_
        exact hz_iret (pc := 32) (hz_dec kX11_judge 18 rfl) rfl (hcP.no hR _)
    · skip
      exact absurd hq2 (by decide)
set_option maxHeartbeats 4000000 in
set_option maxRecDepth 100000 in
theorem c_rjudgeD6 {κ : hz_C} {z B : Nat} {M : hz_M} {H : ho_H} (hnn : (hoN H).length ≤ 6) (hT4 : (hoT H).length ≤ 4000) (hR : hmR M z B H) {v : Nat} (hv : v < (hoN H).length) {N : nd_N} (hN : ndL (hoN H) v = N) (hup : N.2.1 = false) : hz_Mt κ xX12_judge 10 0 0 [.ref B, .int (nI v), .int (nI 6)] z M (hmP M z B (.int (-2)) H) := by
  refine hz_ent (lo := [(0, .ref B), (1, .int (nI v)), (2, .int (nI 6))]) (by decide) (Nat.le_of_ble_eq_true rfl) rfl ?_
  obtain ⟨hk0_, hE0, ⟨m1, m2, m3⟩, hNd, a5, a6, a7, a8⟩ := id hR
  obtain ⟨⟨fs, hO, hF⟩, -, -, h8, hz⟩ := id hk0_
  obtain ⟨x1, x3, x4, x5, x6, x7, x8⟩ := id m3
  have eSt : stI (ndL (hoN H) v).2.1 = (-2) := by rw [hN, hup]; rfl
  refine hz_aloadn (pc := 0) 0 (hz_dec kX12_judge 0 rfl) rfl ?_
  refine hz_iconst (pc := 1) (v := nI 0) (hz_dec kX12_judge 1 rfl) (by decide) ?_
  refine hz_puti (pc := 2) (hz_dec kX12_judge 2 rfl) fo_X12_302 ft_X12_0 hO h8 (by omega) (by rw [hF.1]; decide) ?_
  have hf1 : mfr B [0, 89] [] M (va_up M B (.inr (12, (List.set fs 0 (.int (nI 0)))))) := (mfr.rf ⟨fs, hO, hF⟩).upO (k := 0) hO hF rfl rfl
  have hR1 : hmR (va_up M B (.inr (12, (List.set fs 0 (.int (nI 0)))))) z B H := hR.m0 hf1 hE0.upO ((fdB_of (va_up_self _ _ _) 89).trans ((List.getElem?_set_ne (by decide)).trans ((fdB_of hO 89).symm.trans x8)))
  generalize (va_up M B (.inr (12, (List.set fs 0 (.int (nI 0)))))) = M1 at *
  obtain ⟨hk1, hE1, ⟨n1, d1, q1⟩, hNd1, a51, a61, a71, a81⟩ := id hR1
  obtain ⟨⟨fs1, hO1, hF1⟩, -, -, -, -⟩ := id hk1
  refine hz_iloadn (pc := 5) 2 (hz_dec kX12_judge 3 rfl) rfl ?_
  refine hz_iconst (pc := 6) (v := nI 5) (hz_dec kX12_judge 4 rfl) (by decide) ?_
  refine hz_n_eq (pc := 7) (tgt := 18) (hz_dec kX12_judge 5 rfl) (by decide) (by omega) (by omega) (fun hq1 => ?_) (fun hq1 => ?_)
  · skip
    exact absurd hq1 (by decide)
  · skip
    refine hz_iloadn (pc := 10) 2 (hz_dec kX12_judge 6 rfl) rfl ?_
    refine hz_bipush (pc := 11) (v := nI 6) (hz_dec kX12_judge 7 rfl) (by decide) ?_
    refine hz_n_eq (pc := 13) (tgt := 18) (hz_dec kX12_judge 8 rfl) (by decide) (by omega) (by omega) (fun hq2 => ?_) (fun hq2 => ?_)
    · skip
      refine hz_aloadn (pc := 18) 0 (hz_dec kX12_judge 11 rfl) rfl ?_
      refine hz_iloadn (pc := 19) 1 (hz_dec kX12_judge 12 rfl) rfl ?_
      refine hz_xV (pc := 20) (a := B) (As := [.int (nI v)]) (st := []) (hz_dec kX12_judge 13 rfl) co_X12_692 im_X12_stateOf se_X12_stateOf rfl hO1 h8 (by omega) (c_st hnn hR1 hv) rfl (by decide) ⟨Nat.le_refl _, Nat.le_refl _⟩ (Nat.le_of_ble_eq_true rfl) rfl ?_
      refine hz_eqi (pc := 23) eSt ?_
      refine hz_istoren (pc := 23) (i := 3) (lo2 := [(3, .int (-2)), (0, .ref B), (1, .int (nI v)), (2, .int (nI 6))]) (hz_dec kX12_judge 14 rfl) rfl (by decide) rfl ?_
      refine hz_iloadn (pc := 24) 0 (hz_dec kX12_judge 15 rfl) rfl ?_
      refine hz_if_ge (pc := 25) (tgt := 30) (hz_dec kX12_judge 16 rfl) (by decide) (fun hq3 => ?_) (fun hq3 => ?_)
      · skip
        exact absurd hq3 (by decide)
      · skip
        refine hz_iloadn (pc := 28) 0 (hz_dec kX12_judge 17 rfl) rfl ?_
        exact hz_iret (pc := 29) (hz_dec kX12_judge 18 rfl) rfl ⟨rfl, rfl, hf1.S rfl, hR1⟩
    · skip
      exact absurd hq2 (by decide)
set_option maxHeartbeats 4000000 in
set_option maxRecDepth 100000 in
theorem c_giveN {κ : hz_C} {z : Nat} {M : hz_M} {H : ho_H} (hz : 63 + 34 * (hoN H).length ≤ z) (hnn : (hoN H).length ≤ 6) (hT4 : (hoT H).length ≤ 4000) {ll : Nat} {fr kn : Int32} (hR : hcR M z H ll fr kn) {v kd : Int32} (hv : v < 0 ∨ ¬ v < nI (hoN H).length) : hz_Mt κ xX11_give 17 0 0 [.ref 8, .int v, .int kd] z M (hcP M z H (.int (-1)) H) := by
  refine hz_ent (lo := [(0, .ref 8), (1, .int v), (2, .int kd)]) (by decide) (Nat.le_of_ble_eq_true rfl) rfl ?_
  have hH := hR.1
  have hNs := hR.2.1
  obtain ⟨hO, hQ, hD⟩ := id hR.2.2.2.2.1
  obtain ⟨g53, h53⟩ := hR.2.2.2.2.2.1
  have hJ := hR.2.2.2.1
  obtain ⟨g56, h56, hT56⟩ := hR.2.2.2.2.2.2.2.2.2.1
  have hdf := hR.2.2.2.2.2.2.2.2.2.2
  have hck : ck_k M z := hJ.2.2.2.2.2.2.2.1
  have hcs : ck_s M := hJ.2.2.2.2.2.2.2.2.1
  have hz63 : 63 ≤ z := by omega
  refine hz_aloadn (pc := 0) 0 (hz_dec kX11_give 0 rfl) rfl ?_
  refine hz_iloadn (pc := 1) 1 (hz_dec kX11_give 1 rfl) rfl ?_
  refine hz_xV (pc := 2) (a := 8) (As := [.int v]) (st := []) (hz_dec kX11_give 2 rfl) co_X11_162 im_X11_nodeOf se_X11_nodeOf rfl hH (by omega) (by omega) (c_nOfN hz63 hH hnn hNs hv) rfl (by decide) ⟨Nat.le_refl _, Nat.le_refl _⟩ (Nat.le_of_ble_eq_true rfl) rfl ?_
  refine hz_astorenN (pc := 5) (i := 3) (lo2 := [(3, .null), (0, .ref 8), (1, .int v), (2, .int kd)]) (hz_dec kX11_give 3 rfl) rfl (by decide) rfl ?_
  refine hz_aloadnN (pc := 6) 0 (hz_dec kX11_give 4 rfl) rfl ?_
  refine hz_ifnullN (pc := 7) (tgt := 21) (hz_dec kX11_give 5 rfl) (by decide) ?_
  refine hz_iconst (pc := 21) (v := (-1)) (hz_dec kX11_give 12 rfl) (by decide) ?_
  exact hz_iret (pc := 22) (hz_dec kX11_give 13 rfl) rfl (hcP.no hR _)
set_option maxHeartbeats 4000000 in
set_option maxRecDepth 100000 in
theorem c_rgiveN5 {κ : hz_C} {z B : Nat} {M : hz_M} {H : ho_H} (hnn : (hoN H).length ≤ 6) (hT4 : (hoT H).length ≤ 4000) (hR : hmR M z B H) {v : Int32} (hv : v < 0 ∨ ¬ v < nI (hoN H).length) : hz_Mt κ xX12_give 24 0 0 [.ref B, .int v, .int (nI 5)] z M (hmP M z B (.int (-1)) H) := by
  refine hz_ent (lo := [(0, .ref B), (1, .int v), (2, .int (nI 5))]) (by decide) (Nat.le_of_ble_eq_true rfl) rfl ?_
  obtain ⟨hk0_, hE0, ⟨m1, m2, m3⟩, hNd, a5, a6, a7, a8⟩ := id hR
  obtain ⟨⟨fs, hO, hF⟩, -, -, h8, hz⟩ := id hk0_
  obtain ⟨x1, x3, x4, x5, x6, x7, x8⟩ := id m3
  refine hz_aloadn (pc := 0) 0 (hz_dec kX12_give 0 rfl) rfl ?_
  refine hz_iconst (pc := 1) (v := nI 0) (hz_dec kX12_give 1 rfl) (by decide) ?_
  refine hz_puti (pc := 2) (hz_dec kX12_give 2 rfl) fo_X12_302 ft_X12_0 hO h8 (by omega) (by rw [hF.1]; decide) ?_
  have hf1 : mfr B [0, 89] [] M (va_up M B (.inr (12, (List.set fs 0 (.int (nI 0)))))) := (mfr.rf ⟨fs, hO, hF⟩).upO (k := 0) hO hF rfl rfl
  have hR1 : hmR (va_up M B (.inr (12, (List.set fs 0 (.int (nI 0)))))) z B H := hR.m0 hf1 hE0.upO ((fdB_of (va_up_self _ _ _) 89).trans ((List.getElem?_set_ne (by decide)).trans ((fdB_of hO 89).symm.trans x8)))
  generalize (va_up M B (.inr (12, (List.set fs 0 (.int (nI 0)))))) = M1 at *
  obtain ⟨hk1, hE1, ⟨n1, d1, q1⟩, hNd1, a51, a61, a71, a81⟩ := id hR1
  obtain ⟨⟨fs1, hO1, hF1⟩, -, -, -, -⟩ := id hk1
  refine hz_iloadn (pc := 5) 2 (hz_dec kX12_give 3 rfl) rfl ?_
  refine hz_iconst (pc := 6) (v := nI 5) (hz_dec kX12_give 4 rfl) (by decide) ?_
  refine hz_n_eq (pc := 7) (tgt := 18) (hz_dec kX12_give 5 rfl) (by decide) (by omega) (by omega) (fun hq1 => ?_) (fun hq1 => ?_)
  · skip
    refine hz_aloadn (pc := 18) 0 (hz_dec kX12_give 11 rfl) rfl ?_
    refine hz_iloadn (pc := 19) 1 (hz_dec kX12_give 12 rfl) rfl ?_
    refine hz_xV (pc := 20) (a := B) (As := [.int v]) (st := []) (hz_dec kX12_give 13 rfl) co_X12_692 im_X12_stateOf se_X12_stateOf rfl hO1 h8 (by omega) (c_stN hnn hR1 hv) rfl (by decide) ⟨Nat.le_refl _, Nat.le_refl _⟩ (Nat.le_of_ble_eq_true rfl) rfl ?_
    refine hz_istoren (pc := 23) (i := 3) (lo2 := [(3, .int (-1)), (0, .ref B), (1, .int v), (2, .int (nI 5))]) (hz_dec kX12_give 14 rfl) rfl (by decide) rfl ?_
    refine hz_iloadn (pc := 24) 0 (hz_dec kX12_give 15 rfl) rfl ?_
    refine hz_if_ge (pc := 25) (tgt := 30) (hz_dec kX12_give 16 rfl) (by decide) (fun hq2 => ?_) (fun hq2 => ?_)
    · skip
      exact absurd hq2 (by decide)
    · skip
      refine hz_iloadn (pc := 28) 0 (hz_dec kX12_give 17 rfl) rfl ?_
      exact hz_iret (pc := 29) (hz_dec kX12_give 18 rfl) rfl ⟨rfl, rfl, hf1.S rfl, hR1⟩
  · skip
    exact absurd hq1 (by decide)
set_option maxHeartbeats 4000000 in
set_option maxRecDepth 100000 in
theorem c_rgiveN6 {κ : hz_C} {z B : Nat} {M : hz_M} {H : ho_H} (hnn : (hoN H).length ≤ 6) (hT4 : (hoT H).length ≤ 4000) (hR : hmR M z B H) {v : Int32} (hv : v < 0 ∨ ¬ v < nI (hoN H).length) : hz_Mt κ xX12_give 24 0 0 [.ref B, .int v, .int (nI 6)] z M (hmP M z B (.int (-1)) H) := by
  refine hz_ent (lo := [(0, .ref B), (1, .int v), (2, .int (nI 6))]) (by decide) (Nat.le_of_ble_eq_true rfl) rfl ?_
  obtain ⟨hk0_, hE0, ⟨m1, m2, m3⟩, hNd, a5, a6, a7, a8⟩ := id hR
  obtain ⟨⟨fs, hO, hF⟩, -, -, h8, hz⟩ := id hk0_
  obtain ⟨x1, x3, x4, x5, x6, x7, x8⟩ := id m3
  refine hz_aloadn (pc := 0) 0 (hz_dec kX12_give 0 rfl) rfl ?_
  refine hz_iconst (pc := 1) (v := nI 0) (hz_dec kX12_give 1 rfl) (by decide) ?_
  refine hz_puti (pc := 2) (hz_dec kX12_give 2 rfl) fo_X12_302 ft_X12_0 hO h8 (by omega) (by rw [hF.1]; decide) ?_
  have hf1 : mfr B [0, 89] [] M (va_up M B (.inr (12, (List.set fs 0 (.int (nI 0)))))) := (mfr.rf ⟨fs, hO, hF⟩).upO (k := 0) hO hF rfl rfl
  have hR1 : hmR (va_up M B (.inr (12, (List.set fs 0 (.int (nI 0)))))) z B H := hR.m0 hf1 hE0.upO ((fdB_of (va_up_self _ _ _) 89).trans ((List.getElem?_set_ne (by decide)).trans ((fdB_of hO 89).symm.trans x8)))
  generalize (va_up M B (.inr (12, (List.set fs 0 (.int (nI 0)))))) = M1 at *
  obtain ⟨hk1, hE1, ⟨n1, d1, q1⟩, hNd1, a51, a61, a71, a81⟩ := id hR1
  obtain ⟨⟨fs1, hO1, hF1⟩, -, -, -, -⟩ := id hk1
  refine hz_iloadn (pc := 5) 2 (hz_dec kX12_give 3 rfl) rfl ?_
  refine hz_iconst (pc := 6) (v := nI 5) (hz_dec kX12_give 4 rfl) (by decide) ?_
  refine hz_n_eq (pc := 7) (tgt := 18) (hz_dec kX12_give 5 rfl) (by decide) (by omega) (by omega) (fun hq1 => ?_) (fun hq1 => ?_)
  · skip
    exact absurd hq1 (by decide)
  · skip
    refine hz_iloadn (pc := 10) 2 (hz_dec kX12_give 6 rfl) rfl ?_
    refine hz_bipush (pc := 11) (v := nI 6) (hz_dec kX12_give 7 rfl) (by decide) ?_
    refine hz_n_eq (pc := 13) (tgt := 18) (hz_dec kX12_give 8 rfl) (by decide) (by omega) (by omega) (fun hq2 => ?_) (fun hq2 => ?_)
    · skip
      refine hz_aloadn (pc := 18) 0 (hz_dec kX12_give 11 rfl) rfl ?_
      refine hz_iloadn (pc := 19) 1 (hz_dec kX12_give 12 rfl) rfl ?_
      refine hz_xV (pc := 20) (a := B) (As := [.int v]) (st := []) (hz_dec kX12_give 13 rfl) co_X12_692 im_X12_stateOf se_X12_stateOf rfl hO1 h8 (by omega) (c_stN hnn hR1 hv) rfl (by decide) ⟨Nat.le_refl _, Nat.le_refl _⟩ (Nat.le_of_ble_eq_true rfl) rfl ?_
      refine hz_istoren (pc := 23) (i := 3) (lo2 := [(3, .int (-1)), (0, .ref B), (1, .int v), (2, .int (nI 6))]) (hz_dec kX12_give 14 rfl) rfl (by decide) rfl ?_
      refine hz_iloadn (pc := 24) 0 (hz_dec kX12_give 15 rfl) rfl ?_
      refine hz_if_ge (pc := 25) (tgt := 30) (hz_dec kX12_give 16 rfl) (by decide) (fun hq3 => ?_) (fun hq3 => ?_)
      · skip
        exact absurd hq3 (by decide)
      · skip
        refine hz_iloadn (pc := 28) 0 (hz_dec kX12_give 17 rfl) rfl ?_
        exact hz_iret (pc := 29) (hz_dec kX12_give 18 rfl) rfl ⟨rfl, rfl, hf1.S rfl, hR1⟩
    · skip
      exact absurd hq2 (by decide)
set_option maxHeartbeats 4000000 in
set_option maxRecDepth 100000 in
theorem c_giveK {κ : hz_C} {z : Nat} {M : hz_M} {H : ho_H} (hz : 63 + 34 * (hoN H).length ≤ z) (hnn : (hoN H).length ≤ 6) (hT4 : (hoT H).length ≤ 4000) {ll : Nat} {fr kn : Int32} (hR : hcR M z H ll fr kn) {v : Nat} (hv : v < (hoN H).length) {N : nd_N} (hN : ndL (hoN H) v = N) {kd : Int32} (hkd : ¬ kd = nI 5) (hkd6 : ¬ kd = nI 6) : hz_Mt κ xX11_give 17 0 0 [.ref 8, .int (nI v), .int kd] z M (hcP M z H (.int (-1)) H) := by
  refine hz_ent (lo := [(0, .ref 8), (1, .int (nI v)), (2, .int kd)]) (by decide) (Nat.le_of_ble_eq_true rfl) rfl ?_
  have hH := hR.1
  have hNs := hR.2.1
  obtain ⟨hO, hQ, hD⟩ := id hR.2.2.2.2.1
  obtain ⟨g53, h53⟩ := hR.2.2.2.2.2.1
  have hJ := hR.2.2.2.1
  obtain ⟨g56, h56, hT56⟩ := hR.2.2.2.2.2.2.2.2.2.1
  have hdf := hR.2.2.2.2.2.2.2.2.2.2
  have hck : ck_k M z := hJ.2.2.2.2.2.2.2.1
  have hcs : ck_s M := hJ.2.2.2.2.2.2.2.2.1
  have hz63 : 63 ≤ z := by omega
  have hK := hR.2.2.1 v hv
  rw [hN] at hK
  obtain ⟨hn, ⟨gd, hgd, hgD⟩, hT, hC, hP, hL⟩ := id hK
  refine hz_aloadn (pc := 0) 0 (hz_dec kX11_give 0 rfl) rfl ?_
  refine hz_iloadn (pc := 1) 1 (hz_dec kX11_give 1 rfl) rfl ?_
  refine hz_xV (pc := 2) (a := 8) (As := [.int (nI v)]) (st := []) (hz_dec kX11_give 2 rfl) co_X11_162 im_X11_nodeOf se_X11_nodeOf rfl hH (by omega) (by omega) (c_nOf hz63 hH hnn hNs (b := v) hv) rfl (by decide) ⟨Nat.le_refl _, Nat.le_refl _⟩ (Nat.le_of_ble_eq_true rfl) rfl ?_
  refine hz_astoren (pc := 5) (i := 3) (lo2 := [(3, .ref (63 + 34 * v)), (0, .ref 8), (1, .int (nI v)), (2, .int kd)]) (hz_dec kX11_give 3 rfl) rfl (by decide) rfl ?_
  refine hz_aloadn (pc := 6) 0 (hz_dec kX11_give 4 rfl) rfl ?_
  refine hz_ifnull (pc := 7) (hz_dec kX11_give 5 rfl) ?_
  refine hz_iloadn (pc := 10) 3 (hz_dec kX11_give 6 rfl) rfl ?_
  refine hz_iconst (pc := 11) (v := nI 5) (hz_dec kX11_give 7 rfl) (by decide) ?_
  refine hz_icmp_eq (pc := 12) (tgt := 23) (hz_dec kX11_give 8 rfl) (by decide) (fun h1 => ?_) (fun h1 => ?_)
  · skip
    exact absurd h1 hkd
  · skip
    refine hz_iloadn (pc := 15) 3 (hz_dec kX11_give 9 rfl) rfl ?_
    refine hz_bipush (pc := 16) (v := nI 6) (hz_dec kX11_give 10 rfl) (by decide) ?_
    refine hz_icmp_eq (pc := 18) (tgt := 23) (hz_dec kX11_give 11 rfl) (by decide) (fun h2 => ?_) (fun h2 => ?_)
    · skip
      exact absurd h2 hkd6
    · skip
      refine hz_iconst (pc := 21) (v := (-1)) (hz_dec kX11_give 12 rfl) (by decide) ?_
      exact hz_iret (pc := 22) (hz_dec kX11_give 13 rfl) rfl (hcP.no hR _)
set_option maxHeartbeats 4000000 in
set_option maxRecDepth 100000 in
theorem c_rgiveK {κ : hz_C} {z B : Nat} {M : hz_M} {H : ho_H} (hnn : (hoN H).length ≤ 6) (hT4 : (hoT H).length ≤ 4000) (hR : hmR M z B H) {v kd : Int32} (hkd : ¬ kd = nI 5) (hkd6 : ¬ kd = nI 6) : hz_Mt κ xX12_give 24 0 0 [.ref B, .int v, .int kd] z M (hmP M z B (.int (-1)) H) := by
  refine hz_ent (lo := [(0, .ref B), (1, .int v), (2, .int kd)]) (by decide) (Nat.le_of_ble_eq_true rfl) rfl ?_
  obtain ⟨hk0_, hE0, ⟨m1, m2, m3⟩, hNd, a5, a6, a7, a8⟩ := id hR
  obtain ⟨⟨fs, hO, hF⟩, -, -, h8, hz⟩ := id hk0_
  obtain ⟨x1, x3, x4, x5, x6, x7, x8⟩ := id m3
  refine hz_aloadn (pc := 0) 0 (hz_dec kX12_give 0 rfl) rfl ?_
  refine hz_iconst (pc := 1) (v := nI 0) (hz_dec kX12_give 1 rfl) (by decide) ?_
  refine hz_puti (pc := 2) (hz_dec kX12_give 2 rfl) fo_X12_302 ft_X12_0 hO h8 (by omega) (by rw [hF.1]; decide) ?_
  have hf1 : mfr B [0, 89] [] M (va_up M B (.inr (12, (List.set fs 0 (.int (nI 0)))))) := (mfr.rf ⟨fs, hO, hF⟩).upO (k := 0) hO hF rfl rfl
  have hR1 : hmR (va_up M B (.inr (12, (List.set fs 0 (.int (nI 0)))))) z B H := hR.m0 hf1 hE0.upO ((fdB_of (va_up_self _ _ _) 89).trans ((List.getElem?_set_ne (by decide)).trans ((fdB_of hO 89).symm.trans x8)))
  generalize (va_up M B (.inr (12, (List.set fs 0 (.int (nI 0)))))) = M1 at *
  obtain ⟨hk1, hE1, ⟨n1, d1, q1⟩, hNd1, a51, a61, a71, a81⟩ := id hR1
  obtain ⟨⟨fs1, hO1, hF1⟩, -, -, -, -⟩ := id hk1
  refine hz_iloadn (pc := 5) 2 (hz_dec kX12_give 3 rfl) rfl ?_
  refine hz_iconst (pc := 6) (v := nI 5) (hz_dec kX12_give 4 rfl) (by decide) ?_
  refine hz_icmp_eq (pc := 7) (tgt := 18) (hz_dec kX12_give 5 rfl) (by decide) (fun h1 => ?_) (fun h1 => ?_)
  · skip
    exact absurd h1 hkd
  · skip
    refine hz_iloadn (pc := 10) 2 (hz_dec kX12_give 6 rfl) rfl ?_
    refine hz_bipush (pc := 11) (v := nI 6) (hz_dec kX12_give 7 rfl) (by decide) ?_
    refine hz_icmp_eq (pc := 13) (tgt := 18) (hz_dec kX12_give 8 rfl) (by decide) (fun h2 => ?_) (fun h2 => ?_)
    · skip
      exact absurd h2 hkd6
    · skip
      refine hz_iconst (pc := 16) (v := (-1)) (hz_dec kX12_give 9 rfl) (by decide) ?_
      exact hz_iret (pc := 17) (hz_dec kX12_give 10 rfl) rfl ⟨rfl, rfl, hf1.S rfl, hR1⟩
set_option maxHeartbeats 4000000 in
set_option maxRecDepth 100000 in
theorem c_giveD5 {κ : hz_C} {z : Nat} {M : hz_M} {H : ho_H} (hz : 63 + 34 * (hoN H).length ≤ z) (hnn : (hoN H).length ≤ 6) (hT4 : (hoT H).length ≤ 4000) {ll : Nat} {fr kn : Int32} (hR : hcR M z H ll fr kn) {v : Nat} (hv : v < (hoN H).length) {N : nd_N} (hN : ndL (hoN H) v = N) (hup : N.2.1 = false) : hz_Mt κ xX11_give 17 0 0 [.ref 8, .int (nI v), .int (nI 5)] z M (hcP M z H (.int (-2)) H) := by
  refine hz_ent (lo := [(0, .ref 8), (1, .int (nI v)), (2, .int (nI 5))]) (by decide) (Nat.le_of_ble_eq_true rfl) rfl ?_
  have hH := hR.1
  have hNs := hR.2.1
  obtain ⟨hO, hQ, hD⟩ := id hR.2.2.2.2.1
  obtain ⟨g53, h53⟩ := hR.2.2.2.2.2.1
  have hJ := hR.2.2.2.1
  obtain ⟨g56, h56, hT56⟩ := hR.2.2.2.2.2.2.2.2.2.1
  have hdf := hR.2.2.2.2.2.2.2.2.2.2
  have hck : ck_k M z := hJ.2.2.2.2.2.2.2.1
  have hcs : ck_s M := hJ.2.2.2.2.2.2.2.2.1
  have hz63 : 63 ≤ z := by omega
  have hK := hR.2.2.1 v hv
  rw [hN] at hK
  obtain ⟨hn, ⟨gd, hgd, hgD⟩, hT, hC, hP, hL⟩ := id hK
  have hn : M (63 + 34 * v) = ndO (63 + 34 * v) (nI v) (nI 0) (nI (ksN N.1)) (pvI (ksF N.1)) N.2.2.1 N.2.2.2 := by rw [hup] at hn; exact hn
  refine hz_aloadn (pc := 0) 0 (hz_dec kX11_give 0 rfl) rfl ?_
  refine hz_iloadn (pc := 1) 1 (hz_dec kX11_give 1 rfl) rfl ?_
  refine hz_xV (pc := 2) (a := 8) (As := [.int (nI v)]) (st := []) (hz_dec kX11_give 2 rfl) co_X11_162 im_X11_nodeOf se_X11_nodeOf rfl hH (by omega) (by omega) (c_nOf hz63 hH hnn hNs (b := v) hv) rfl (by decide) ⟨Nat.le_refl _, Nat.le_refl _⟩ (Nat.le_of_ble_eq_true rfl) rfl ?_
  refine hz_astoren (pc := 5) (i := 3) (lo2 := [(3, .ref (63 + 34 * v)), (0, .ref 8), (1, .int (nI v)), (2, .int (nI 5))]) (hz_dec kX11_give 3 rfl) rfl (by decide) rfl ?_
  refine hz_aloadn (pc := 6) 0 (hz_dec kX11_give 4 rfl) rfl ?_
  refine hz_ifnull (pc := 7) (hz_dec kX11_give 5 rfl) ?_
  refine hz_iloadn (pc := 10) 3 (hz_dec kX11_give 6 rfl) rfl ?_
  refine hz_iconst (pc := 11) (v := nI 5) (hz_dec kX11_give 7 rfl) (by decide) ?_
  refine hz_n_eq (pc := 12) (tgt := 23) (hz_dec kX11_give 8 rfl) (by decide) (by omega) (by omega) (fun hq1 => ?_) (fun hq1 => ?_)
  · skip
    refine hz_aloadn (pc := 23) 0 (hz_dec kX11_give 14 rfl) rfl ?_
    refine hz_get (pc := 24) (hz_dec kX11_give 15 rfl) fo_X11_166 hn (by omega) (by omega) rfl ?_
    refine hz_z_ne (pc := 27) (tgt := 33) (hz_dec kX11_give 16 rfl) (by decide) (by omega) (fun hq2 => ?_) (fun hq2 => ?_)
    · skip
      exact absurd hq2 (by decide)
    · skip
      refine hz_bipush (pc := 30) (v := (-2)) (hz_dec kX11_give 17 rfl) (by decide) ?_
      exact hz_iret (pc := 32) (hz_dec kX11_give 18 rfl) rfl (hcP.no hR _)
  · skip
    exact absurd hq1 (by decide)
set_option maxHeartbeats 4000000 in
set_option maxRecDepth 100000 in
theorem c_rgiveD5 {κ : hz_C} {z B : Nat} {M : hz_M} {H : ho_H} (hnn : (hoN H).length ≤ 6) (hT4 : (hoT H).length ≤ 4000) (hR : hmR M z B H) {v : Nat} (hv : v < (hoN H).length) {N : nd_N} (hN : ndL (hoN H) v = N) (hup : N.2.1 = false) : hz_Mt κ xX12_give 24 0 0 [.ref B, .int (nI v), .int (nI 5)] z M (hmP M z B (.int (-2)) H) := by
  refine hz_ent (lo := [(0, .ref B), (1, .int (nI v)), (2, .int (nI 5))]) (by decide) (Nat.le_of_ble_eq_true rfl) rfl ?_
  obtain ⟨hk0_, hE0, ⟨m1, m2, m3⟩, hNd, a5, a6, a7, a8⟩ := id hR
  obtain ⟨⟨fs, hO, hF⟩, -, -, h8, hz⟩ := id hk0_
  obtain ⟨x1, x3, x4, x5, x6, x7, x8⟩ := id m3
  have eSt : stI (ndL (hoN H) v).2.1 = (-2) := by rw [hN, hup]; rfl
  refine hz_aloadn (pc := 0) 0 (hz_dec kX12_give 0 rfl) rfl ?_
  refine hz_iconst (pc := 1) (v := nI 0) (hz_dec kX12_give 1 rfl) (by decide) ?_
  refine hz_puti (pc := 2) (hz_dec kX12_give 2 rfl) fo_X12_302 ft_X12_0 hO h8 (by omega) (by rw [hF.1]; decide) ?_
  have hf1 : mfr B [0, 89] [] M (va_up M B (.inr (12, (List.set fs 0 (.int (nI 0)))))) := (mfr.rf ⟨fs, hO, hF⟩).upO (k := 0) hO hF rfl rfl
  have hR1 : hmR (va_up M B (.inr (12, (List.set fs 0 (.int (nI 0)))))) z B H := hR.m0 hf1 hE0.upO ((fdB_of (va_up_self _ _ _) 89).trans ((List.getElem?_set_ne (by decide)).trans ((fdB_of hO 89).symm.trans x8)))
  generalize (va_up M B (.inr (12, (List.set fs 0 (.int (nI 0)))))) = M1 at *
  obtain ⟨hk1, hE1, ⟨n1, d1, q1⟩, hNd1, a51, a61, a71, a81⟩ := id hR1
  obtain ⟨⟨fs1, hO1, hF1⟩, -, -, -, -⟩ := id hk1
  refine hz_iloadn (pc := 5) 2 (hz_dec kX12_give 3 rfl) rfl ?_
  refine hz_iconst (pc := 6) (v := nI 5) (hz_dec kX12_give 4 rfl) (by decide) ?_
  refine hz_n_eq (pc := 7) (tgt := 18) (hz_dec kX12_give 5 rfl) (by decide) (by omega) (by omega) (fun hq1 => ?_) (fun hq1 => ?_)
  · skip
    refine hz_aloadn (pc := 18) 0 (hz_dec kX12_give 11 rfl) rfl ?_
    refine hz_iloadn (pc := 19) 1 (hz_dec kX12_give 12 rfl) rfl ?_
    refine hz_xV (pc := 20) (a := B) (As := [.int (nI v)]) (st := []) (hz_dec kX12_give 13 rfl) co_X12_692 im_X12_stateOf se_X12_stateOf rfl hO1 h8 (by omega) (c_st hnn hR1 hv) rfl (by decide) ⟨Nat.le_refl _, Nat.le_refl _⟩ (Nat.le_of_ble_eq_true rfl) rfl ?_
    refine hz_eqi (pc := 23) eSt ?_
    refine hz_istoren (pc := 23) (i := 3) (lo2 := [(3, .int (-2)), (0, .ref B), (1, .int (nI v)), (2, .int (nI 5))]) (hz_dec kX12_give 14 rfl) rfl (by decide) rfl ?_
    refine hz_iloadn (pc := 24) 0 (hz_dec kX12_give 15 rfl) rfl ?_
    refine hz_if_ge (pc := 25) (tgt := 30) (hz_dec kX12_give 16 rfl) (by decide) (fun hq2 => ?_) (fun hq2 => ?_)
    · skip
      exact absurd hq2 (by decide)
    · skip
      refine hz_iloadn (pc := 28) 0 (hz_dec kX12_give 17 rfl) rfl ?_
      exact hz_iret (pc := 29) (hz_dec kX12_give 18 rfl) rfl ⟨rfl, rfl, hf1.S rfl, hR1⟩
  · skip
    exact absurd hq1 (by decide)
set_option maxHeartbeats 4000000 in
set_option maxRecDepth 100000 in
theorem c_giveD6 {κ : hz_C} {z : Nat} {M : hz_M} {H : ho_H} (hz : 63 + 34 * (hoN H).length ≤ z) (hnn : (hoN H).length ≤ 6) (hT4 : (hoT H).length ≤ 4000) {ll : Nat} {fr kn : Int32} (hR : hcR M z H ll fr kn) {v : Nat} (hv : v < (hoN H).length) {N : nd_N} (hN : ndL (hoN H) v = N) (hup : N.2.1 = false) : hz_Mt κ xX11_give 17 0 0 [.ref 8, .int (nI v), .int (nI 6)] z M (hcP M z H (.int (-2)) H) := by
  refine hz_ent (lo := [(0, .ref 8), (1, .int (nI v)), (2, .int (nI 6))]) (by decide) (Nat.le_of_ble_eq_true rfl) rfl ?_
  have hH := hR.1
  have hNs := hR.2.1
  obtain ⟨hO, hQ, hD⟩ := id hR.2.2.2.2.1
  obtain ⟨g53, h53⟩ := hR.2.2.2.2.2.1
  have hJ := hR.2.2.2.1
  obtain ⟨g56, h56, hT56⟩ := hR.2.2.2.2.2.2.2.2.2.1
  have hdf := hR.2.2.2.2.2.2.2.2.2.2
  have hck : ck_k M z := hJ.2.2.2.2.2.2.2.1
  have hcs : ck_s M := hJ.2.2.2.2.2.2.2.2.1
  have hz63 : 63 ≤ z := by omega
  have hK := hR.2.2.1 v hv
  rw [hN] at hK
  obtain ⟨hn, ⟨gd, hgd, hgD⟩, hT, hC, hP, hL⟩ := id hK
  have hn : M (63 + 34 * v) = ndO (63 + 34 * v) (nI v) (nI 0) (nI (ksN N.1)) (pvI (ksF N.1)) N.2.2.1 N.2.2.2 := by rw [hup] at hn; exact hn
  refine hz_aloadn (pc := 0) 0 (hz_dec kX11_give 0 rfl) rfl ?_
  refine hz_iloadn (pc := 1) 1 (hz_dec kX11_give 1 rfl) rfl ?_
  refine hz_xV (pc := 2) (a := 8) (As := [.int (nI v)]) (st := []) (hz_dec kX11_give 2 rfl) co_X11_162 im_X11_nodeOf se_X11_nodeOf rfl hH (by omega) (by omega) (c_nOf hz63 hH hnn hNs (b := v) hv) rfl (by decide) ⟨Nat.le_refl _, Nat.le_refl _⟩ (Nat.le_of_ble_eq_true rfl) rfl ?_
  refine hz_astoren (pc := 5) (i := 3) (lo2 := [(3, .ref (63 + 34 * v)), (0, .ref 8), (1, .int (nI v)), (2, .int (nI 6))]) (hz_dec kX11_give 3 rfl) rfl (by decide) rfl ?_
  refine hz_aloadn (pc := 6) 0 (hz_dec kX11_give 4 rfl) rfl ?_
  refine hz_ifnull (pc := 7) (hz_dec kX11_give 5 rfl) ?_
  refine hz_iloadn (pc := 10) 3 (hz_dec kX11_give 6 rfl) rfl ?_
  refine hz_iconst (pc := 11) (v := nI 5) (hz_dec kX11_give 7 rfl) (by decide) ?_
  refine hz_n_eq (pc := 12) (tgt := 23) (hz_dec kX11_give 8 rfl) (by decide) (by omega) (by omega) (fun hq1 => ?_) (fun hq1 => ?_)
  · skip
    exact absurd hq1 (by decide)
  · skip
    refine hz_iloadn (pc := 15) 3 (hz_dec kX11_give 9 rfl) rfl ?_
    refine hz_bipush (pc := 16) (v := nI 6) (hz_dec kX11_give 10 rfl) (by decide) ?_
    refine hz_n_eq (pc := 18) (tgt := 23) (hz_dec kX11_give 11 rfl) (by decide) (by omega) (by omega) (fun hq2 => ?_) (fun hq2 => ?_)
    · skip
      refine hz_aloadn (pc := 23) 0 (hz_dec kX11_give 14 rfl) rfl ?_
      refine hz_get (pc := 24) (hz_dec kX11_give 15 rfl) fo_X11_166 hn (by omega) (by omega) rfl ?_
      refine hz_z_ne (pc := 27) (tgt := 33) (hz_dec kX11_give 16 rfl) (by decide) (by omega) (fun hq3 => ?_) (fun hq3 => ?_)
      · skip
        exact absurd hq3 (by decide)
      · skip
        refine hz_bipush (pc := 30) (v := (-2)) (hz_dec kX11_give 17 rfl) (by decide) ?_
        exact hz_iret (pc := 32) (hz_dec kX11_give 18 rfl) rfl (hcP.no hR _)
    · skip
      exact absurd hq2 (by decide)
set_option maxHeartbeats 4000000 in
set_option maxRecDepth 100000 in
theorem c_rgiveD6 {κ : hz_C} {z B : Nat} {M : hz_M} {H : ho_H} (hnn : (hoN H).length ≤ 6) (hT4 : (hoT H).length ≤ 4000) (hR : hmR M z B H) {v : Nat} (hv : v < (hoN H).length) {N : nd_N} (hN : ndL (hoN H) v = N) (hup : N.2.1 = false) : hz_Mt κ xX12_give 24 0 0 [.ref B, .int (nI v), .int (nI 6)] z M (hmP M z B (.int (-2)) H) := by
  refine hz_ent (lo := [(0, .ref B), (1, .int (nI v)), (2, .int (nI 6))]) (by decide) (Nat.le_of_ble_eq_true rfl) rfl ?_
  obtain ⟨hk0_, hE0, ⟨m1, m2, m3⟩, hNd, a5, a6, a7, a8⟩ := id hR
  obtain ⟨⟨fs, hO, hF⟩, -, -, h8, hz⟩ := id hk0_
  obtain ⟨x1, x3, x4, x5, x6, x7, x8⟩ := id m3
  have eSt : stI (ndL (hoN H) v).2.1 = (-2) := by rw [hN, hup]; rfl
  refine hz_aloadn (pc := 0) 0 (hz_dec kX12_give 0 rfl) rfl ?_
  refine hz_iconst (pc := 1) (v := nI 0) (hz_dec kX12_give 1 rfl) (by decide) ?_
  refine hz_puti (pc := 2) (hz_dec kX12_give 2 rfl) fo_X12_302 ft_X12_0 hO h8 (by omega) (by rw [hF.1]; decide) ?_
  have hf1 : mfr B [0, 89] [] M (va_up M B (.inr (12, (List.set fs 0 (.int (nI 0)))))) := (mfr.rf ⟨fs, hO, hF⟩).upO (k := 0) hO hF rfl rfl
  have hR1 : hmR (va_up M B (.inr (12, (List.set fs 0 (.int (nI 0)))))) z B H := hR.m0 hf1 hE0.upO ((fdB_of (va_up_self _ _ _) 89).trans ((List.getElem?_set_ne (by decide)).trans ((fdB_of hO 89).symm.trans x8)))
  generalize (va_up M B (.inr (12, (List.set fs 0 (.int (nI 0)))))) = M1 at *
  obtain ⟨hk1, hE1, ⟨n1, d1, q1⟩, hNd1, a51, a61, a71, a81⟩ := id hR1
  obtain ⟨⟨fs1, hO1, hF1⟩, -, -, -, -⟩ := id hk1
  refine hz_iloadn (pc := 5) 2 (hz_dec kX12_give 3 rfl) rfl ?_
  refine hz_iconst (pc := 6) (v := nI 5) (hz_dec kX12_give 4 rfl) (by decide) ?_
  refine hz_n_eq (pc := 7) (tgt := 18) (hz_dec kX12_give 5 rfl) (by decide) (by omega) (by omega) (fun hq1 => ?_) (fun hq1 => ?_)
  · skip
    exact absurd hq1 (by decide)
  · skip
    refine hz_iloadn (pc := 10) 2 (hz_dec kX12_give 6 rfl) rfl ?_
    refine hz_bipush (pc := 11) (v := nI 6) (hz_dec kX12_give 7 rfl) (by decide) ?_
    refine hz_n_eq (pc := 13) (tgt := 18) (hz_dec kX12_give 8 rfl) (by decide) (by omega) (by omega) (fun hq2 => ?_) (fun hq2 => ?_)
    · skip
      refine hz_aloadn (pc := 18) 0 (hz_dec kX12_give 11 rfl) rfl ?_
      refine hz_iloadn (pc := 19) 1 (hz_dec kX12_give 12 rfl) rfl ?_
      refine hz_xV (pc := 20) (a := B) (As := [.int (nI v)]) (st := []) (hz_dec kX12_give 13 rfl) co_X12_692 im_X12_stateOf se_X12_stateOf rfl hO1 h8 (by omega) (c_st hnn hR1 hv) rfl (by decide) ⟨Nat.le_refl _, Nat.le_refl _⟩ (Nat.le_of_ble_eq_true rfl) rfl ?_
      refine hz_eqi (pc := 23) eSt ?_
      refine hz_istoren (pc := 23) (i := 3) (lo2 := [(3, .int (-2)), (0, .ref B), (1, .int (nI v)), (2, .int (nI 6))]) (hz_dec kX12_give 14 rfl) rfl (by decide) rfl ?_
      refine hz_iloadn (pc := 24) 0 (hz_dec kX12_give 15 rfl) rfl ?_
      refine hz_if_ge (pc := 25) (tgt := 30) (hz_dec kX12_give 16 rfl) (by decide) (fun hq3 => ?_) (fun hq3 => ?_)
      · skip
        exact absurd hq3 (by decide)
      · skip
        refine hz_iloadn (pc := 28) 0 (hz_dec kX12_give 17 rfl) rfl ?_
        exact hz_iret (pc := 29) (hz_dec kX12_give 18 rfl) rfl ⟨rfl, rfl, hf1.S rfl, hR1⟩
    · skip
      exact absurd hq2 (by decide)
set_option maxHeartbeats 4000000 in
set_option maxRecDepth 100000 in
theorem c_judge5 {κ : hz_C} {z : Nat} {M : hz_M} {H : ho_H} (hz : 63 + 34 * (hoN H).length ≤ z) (hnn : (hoN H).length ≤ 6) (hT4 : (hoT H).length ≤ 4000) {ll : Nat} {fr kn : Int32} (hR : hcR M z H ll fr kn) {v : Nat} (hv : v < (hoN H).length) {N : nd_N} (hN : ndL (hoN H) v = N) (hup : N.2.1 = true) (hI : ksI N.1) : hz_Mt κ xX11_judge 6 0 0 [.ref 8, .int (nI v), .int (nI 5)] z M (hcP M z H (.int (nI (ksJ N.1 (hoT H)))) H) := by
  refine hz_ent (lo := [(0, .ref 8), (1, .int (nI v)), (2, .int (nI 5))]) (by decide) (Nat.le_of_ble_eq_true rfl) rfl ?_
  have hH := hR.1
  have hNs := hR.2.1
  obtain ⟨hO, hQ, hD⟩ := id hR.2.2.2.2.1
  obtain ⟨g53, h53⟩ := hR.2.2.2.2.2.1
  have hJ := hR.2.2.2.1
  obtain ⟨g56, h56, hT56⟩ := hR.2.2.2.2.2.2.2.2.2.1
  have hdf := hR.2.2.2.2.2.2.2.2.2.2
  have hck : ck_k M z := hJ.2.2.2.2.2.2.2.1
  have hcs : ck_s M := hJ.2.2.2.2.2.2.2.2.1
  have hz63 : 63 ≤ z := by omega
  have hK := hR.2.2.1 v hv
  rw [hN] at hK
  obtain ⟨hn, ⟨gd, hgd, hgD⟩, hT, hC, hP, hL⟩ := id hK
  have hn : M (63 + 34 * v) = ndO (63 + 34 * v) (nI v) (nI 1) (nI (ksN N.1)) (pvI (ksF N.1)) N.2.2.1 N.2.2.2 := by rw [hup] at hn; exact hn
  have hbp := hI.1.p hI.2.1
  obtain ⟨b1, b2, b3, b4, b5, b6, b7, b8⟩ := id hbp
  have hnx : ksN N.1 ≤ 12288 := hI.1.2.2.2.1
  obtain ⟨bf, fe, hj25⟩ := id hJ.1
  refine hz_aloadn (pc := 0) 0 (hz_dec kX11_judge 0 rfl) rfl ?_
  refine hz_iloadn (pc := 1) 1 (hz_dec kX11_judge 1 rfl) rfl ?_
  refine hz_xV (pc := 2) (a := 8) (As := [.int (nI v)]) (st := []) (hz_dec kX11_judge 2 rfl) co_X11_162 im_X11_nodeOf se_X11_nodeOf rfl hH (by omega) (by omega) (c_nOf hz63 hH hnn hNs (b := v) hv) rfl (by decide) ⟨Nat.le_refl _, Nat.le_refl _⟩ (Nat.le_of_ble_eq_true rfl) rfl ?_
  refine hz_astoren (pc := 5) (i := 3) (lo2 := [(3, .ref (63 + 34 * v)), (0, .ref 8), (1, .int (nI v)), (2, .int (nI 5))]) (hz_dec kX11_judge 3 rfl) rfl (by decide) rfl ?_
  refine hz_aloadn (pc := 6) 0 (hz_dec kX11_judge 4 rfl) rfl ?_
  refine hz_ifnull (pc := 7) (hz_dec kX11_judge 5 rfl) ?_
  refine hz_iloadn (pc := 10) 3 (hz_dec kX11_judge 6 rfl) rfl ?_
  refine hz_iconst (pc := 11) (v := nI 5) (hz_dec kX11_judge 7 rfl) (by decide) ?_
  refine hz_n_eq (pc := 12) (tgt := 23) (hz_dec kX11_judge 8 rfl) (by decide) (by omega) (by omega) (fun hq1 => ?_) (fun hq1 => ?_)
  · skip
    refine hz_aloadn (pc := 23) 0 (hz_dec kX11_judge 14 rfl) rfl ?_
    refine hz_get (pc := 24) (hz_dec kX11_judge 15 rfl) fo_X11_166 hn (by omega) (by omega) rfl ?_
    refine hz_z_ne (pc := 27) (tgt := 33) (hz_dec kX11_judge 16 rfl) (by decide) (by omega) (fun hq2 => ?_) (fun hq2 => ?_)
    · skip
      refine hz_iloadn (pc := 33) 3 (hz_dec kX11_judge 19 rfl) rfl ?_
      refine hz_iconst (pc := 34) (v := nI 5) (hz_dec kX11_judge 20 rfl) (by decide) ?_
      refine hz_n_ne (pc := 35) (tgt := 58) (hz_dec kX11_judge 21 rfl) (by decide) (by omega) (by omega) (fun hq3 => ?_) (fun hq3 => ?_)
      · skip
        exact absurd hq3 (by decide)
      · skip
        refine hz_aloadn (pc := 38) 1 (hz_dec kX11_judge 22 rfl) rfl ?_
        refine hz_get (pc := 39) (hz_dec kX11_judge 23 rfl) fo_X11_46 hH (by omega) (by omega) rfl ?_
        refine hz_aloadn (pc := 42) 0 (hz_dec kX11_judge 24 rfl) rfl ?_
        refine hz_aloadn (pc := 43) 1 (hz_dec kX11_judge 25 rfl) rfl ?_
        refine hz_get (pc := 44) (hz_dec kX11_judge 26 rfl) fo_X11_72 hH (by omega) (by omega) rfl ?_
        refine hz_aloadn (pc := 47) 1 (hz_dec kX11_judge 27 rfl) rfl ?_
        refine hz_get (pc := 48) (hz_dec kX11_judge 28 rfl) fo_X11_124 hH (by omega) (by omega) rfl ?_
        refine hz_iconst (pc := 51) (v := nI 1) (hz_dec kX11_judge 29 rfl) (by decide) ?_
        refine hz_callV (pc := 52) (a := 25) (As := [.ref (63 + 34 * v), .ref 56, .int (nI ((hoT H).length)), .int (nI 1)]) (st := []) (hz_dec kX11_judge 30 rfl) co_X11_288 im_X3_ofBlock se_X3_ofBlock rfl hj25 (by omega) (by omega) (c_ofBlk (od := true) hn (by omega) (by omega) (by omega) hT b4 b6 b7 hJ h56 (by decide) (by omega) (by omega) (by decide) hT56 hT4) rfl (by decide) ⟨Nat.le_refl _, Nat.le_refl _⟩ (Nat.le_of_ble_eq_true rfl) rfl (fun r9 z9 M2 hp9 => ?_)
        obtain ⟨rfl, rfl, hf2, hT2, hJ2, -, -⟩ := hp9
        have hf3 : frS [(9, 39), (63 + 34 * v, 63 + 34 * v + 34)] M M2 := hf2.mono (fun q (h9 : outS [(9, 39), (63 + 34 * v, 63 + 34 * v + 34)] q) => ⟨h9.1, by have r := h9.2.1; omega, trivial⟩)
        have hK2 : ndR M2 (63 + 34 * v) v N := by obtain ⟨q1, ⟨g, q2, q3⟩, q4, q5, q6, q7⟩ := id hK; exact ⟨(hf2.at2 (by omega)).trans q1, ⟨g, (hf2.at2 (by omega)).trans q2, q3⟩, hT2, q5.fr (fun q r1 r2 => hf2.at2 (by omega)), q6.fr (fun q r1 r2 => hf2.at2 (by omega)), q7.fr (fun q r1 r2 => hf2.at2 (by omega))⟩
        have hR2 : hcR M2 z H ll fr kn := hR.jn hv hN hf3 hJ2 hK2
        refine hz_goto (pc := 55) (tgt := 76) (hz_dec kX11_judge 31 rfl) (by decide) ?_
        exact hz_iret (pc := 76) (hz_dec kX11_judge 42 rfl) rfl ⟨rfl, rfl, (hf3.mono (fun q (h9 : outS [(8, 63 + 34 * (hoN H).length)] q) => ⟨by have r := h9.1; omega, by have r := h9.1; omega, trivial⟩)), ll, fr, kn, hR2⟩
    · skip
      exact absurd hq2 (by decide)
  · skip
    exact absurd hq1 (by decide)
set_option maxHeartbeats 4000000 in
set_option maxRecDepth 100000 in
theorem c_judge6 {κ : hz_C} {z : Nat} {M : hz_M} {H : ho_H} (hz : 63 + 34 * (hoN H).length ≤ z) (hnn : (hoN H).length ≤ 6) (hT4 : (hoT H).length ≤ 4000) {ll : Nat} {fr kn : Int32} (hR : hcR M z H ll fr kn) {v : Nat} (hv : v < (hoN H).length) {N : nd_N} (hN : ndL (hoN H) v = N) (hup : N.2.1 = true) (hI : ksI N.1) : hz_Mt κ xX11_judge 6 0 0 [.ref 8, .int (nI v), .int (nI 6)] z M (hcP M z H (.int (nI (ksV N.1 (hoT H)))) H) := by
  refine hz_ent (lo := [(0, .ref 8), (1, .int (nI v)), (2, .int (nI 6))]) (by decide) (Nat.le_of_ble_eq_true rfl) rfl ?_
  have hH := hR.1
  have hNs := hR.2.1
  obtain ⟨hO, hQ, hD⟩ := id hR.2.2.2.2.1
  obtain ⟨g53, h53⟩ := hR.2.2.2.2.2.1
  have hJ := hR.2.2.2.1
  obtain ⟨g56, h56, hT56⟩ := hR.2.2.2.2.2.2.2.2.2.1
  have hdf := hR.2.2.2.2.2.2.2.2.2.2
  have hck : ck_k M z := hJ.2.2.2.2.2.2.2.1
  have hcs : ck_s M := hJ.2.2.2.2.2.2.2.2.1
  have hz63 : 63 ≤ z := by omega
  have hK := hR.2.2.1 v hv
  rw [hN] at hK
  obtain ⟨hn, ⟨gd, hgd, hgD⟩, hT, hC, hP, hL⟩ := id hK
  have hn : M (63 + 34 * v) = ndO (63 + 34 * v) (nI v) (nI 1) (nI (ksN N.1)) (pvI (ksF N.1)) N.2.2.1 N.2.2.2 := by rw [hup] at hn; exact hn
  have hbp := hI.1.p hI.2.1
  obtain ⟨b1, b2, b3, b4, b5, b6, b7, b8⟩ := id hbp
  have hnx : ksN N.1 ≤ 12288 := hI.1.2.2.2.1
  obtain ⟨bf, fe, hj25⟩ := id hJ.1
  refine hz_aloadn (pc := 0) 0 (hz_dec kX11_judge 0 rfl) rfl ?_
  refine hz_iloadn (pc := 1) 1 (hz_dec kX11_judge 1 rfl) rfl ?_
  refine hz_xV (pc := 2) (a := 8) (As := [.int (nI v)]) (st := []) (hz_dec kX11_judge 2 rfl) co_X11_162 im_X11_nodeOf se_X11_nodeOf rfl hH (by omega) (by omega) (c_nOf hz63 hH hnn hNs (b := v) hv) rfl (by decide) ⟨Nat.le_refl _, Nat.le_refl _⟩ (Nat.le_of_ble_eq_true rfl) rfl ?_
  refine hz_astoren (pc := 5) (i := 3) (lo2 := [(3, .ref (63 + 34 * v)), (0, .ref 8), (1, .int (nI v)), (2, .int (nI 6))]) (hz_dec kX11_judge 3 rfl) rfl (by decide) rfl ?_
  refine hz_aloadn (pc := 6) 0 (hz_dec kX11_judge 4 rfl) rfl ?_
  refine hz_ifnull (pc := 7) (hz_dec kX11_judge 5 rfl) ?_
  refine hz_iloadn (pc := 10) 3 (hz_dec kX11_judge 6 rfl) rfl ?_
  refine hz_iconst (pc := 11) (v := nI 5) (hz_dec kX11_judge 7 rfl) (by decide) ?_
  refine hz_n_eq (pc := 12) (tgt := 23) (hz_dec kX11_judge 8 rfl) (by decide) (by omega) (by omega) (fun hq1 => ?_) (fun hq1 => ?_)
  · skip
    exact absurd hq1 (by decide)
  · skip
    refine hz_iloadn (pc := 15) 3 (hz_dec kX11_judge 9 rfl) rfl ?_
    refine hz_bipush (pc := 16) (v := nI 6) (hz_dec kX11_judge 10 rfl) (by decide) ?_
    refine hz_n_eq (pc := 18) (tgt := 23) (hz_dec kX11_judge 11 rfl) (by decide) (by omega) (by omega) (fun hq2 => ?_) (fun hq2 => ?_)
    · skip
      refine hz_aloadn (pc := 23) 0 (hz_dec kX11_judge 14 rfl) rfl ?_
      refine hz_get (pc := 24) (hz_dec kX11_judge 15 rfl) fo_X11_166 hn (by omega) (by omega) rfl ?_
      refine hz_z_ne (pc := 27) (tgt := 33) (hz_dec kX11_judge 16 rfl) (by decide) (by omega) (fun hq3 => ?_) (fun hq3 => ?_)
      · skip
        refine hz_iloadn (pc := 33) 3 (hz_dec kX11_judge 19 rfl) rfl ?_
        refine hz_iconst (pc := 34) (v := nI 5) (hz_dec kX11_judge 20 rfl) (by decide) ?_
        refine hz_n_ne (pc := 35) (tgt := 58) (hz_dec kX11_judge 21 rfl) (by decide) (by omega) (by omega) (fun hq4 => ?_) (fun hq4 => ?_)
        · skip
          refine hz_aloadn (pc := 58) 1 (hz_dec kX11_judge 32 rfl) rfl ?_
          refine hz_get (pc := 59) (hz_dec kX11_judge 33 rfl) fo_X11_46 hH (by omega) (by omega) rfl ?_
          refine hz_aloadn (pc := 62) 0 (hz_dec kX11_judge 34 rfl) rfl ?_
          refine hz_aloadn (pc := 63) 1 (hz_dec kX11_judge 35 rfl) rfl ?_
          refine hz_get (pc := 64) (hz_dec kX11_judge 36 rfl) fo_X11_72 hH (by omega) (by omega) rfl ?_
          refine hz_iconst (pc := 67) (v := nI 0) (hz_dec kX11_judge 37 rfl) (by decide) ?_
          refine hz_aloadn (pc := 68) 1 (hz_dec kX11_judge 38 rfl) rfl ?_
          refine hz_get (pc := 69) (hz_dec kX11_judge 39 rfl) fo_X11_124 hH (by omega) (by omega) rfl ?_
          refine hz_iconst (pc := 72) (v := nI 0) (hz_dec kX11_judge 40 rfl) (by decide) ?_
          refine hz_callV (pc := 73) (a := 25) (As := [.ref (63 + 34 * v), .ref 56, .int (nI 0), .int (nI ((hoT H).length)), .int (nI 0)]) (st := []) (hz_dec kX11_judge 41 rfl) co_X11_292 im_X3_forPool se_X3_forPool rfl hj25 (by omega) (by omega) (c_forPool (wi := false) (at_ := 0) hn (by omega) (by omega) hT hC (b7 _ b5).2 hP hI.2.2.2.1 hJ h56 (by decide) (by omega) (by omega) (by decide) hT56 (by omega)) rfl (by decide) ⟨Nat.le_refl _, Nat.le_refl _⟩ (Nat.le_of_ble_eq_true rfl) rfl (fun r9 z9 M2 hp9 => ?_)
          obtain ⟨rfl, rfl, hf2, hJ2, hP2⟩ := hp9
          have eP : poN (ksP N.1) (coAt (ksB N.1) (enB (ksB N.1)) (ksT N.1)) (hoT H) (eH (enB (ksB N.1)) (ksT N.1) + 1) false = ksP N.1 := if_neg (fun c => nomatch c.2)
          rw [eP] at hP2
          have hf3 : frS [(9, 39), (63 + 34 * v, 63 + 34 * v + 34)] M M2 := hf2.mono (fun q (h9 : outS [(9, 39), (63 + 34 * v, 63 + 34 * v + 34)] q) => ⟨by have r := h9.1; omega, by have r := h9.1; omega, by have r := h9.2.1; omega, trivial⟩)
          have hK2 : ndR M2 (63 + 34 * v) v N := by obtain ⟨q1, ⟨g, q2, q3⟩, q4, q5, q6, q7⟩ := id hK; exact ⟨(hf2.at3 (by omega)).trans q1, ⟨g, (hf2.at3 (by omega)).trans q2, q3⟩, q4.fr (fun q r1 r2 => hf2.at3 (by omega)), q5.fr (fun q r1 r2 => hf2.at3 (by omega)), hP2, q7.fr (fun q r1 r2 => hf2.at3 (by omega))⟩
          have hR2 : hcR M2 z H ll fr kn := hR.jn hv hN hf3 hJ2 hK2
          exact hz_iret (pc := 76) (hz_dec kX11_judge 42 rfl) rfl ⟨rfl, rfl, (hf3.mono (fun q (h9 : outS [(8, 63 + 34 * (hoN H).length)] q) => ⟨by have r := h9.1; omega, by have r := h9.1; omega, trivial⟩)), ll, fr, kn, hR2⟩
        · skip
          exact absurd hq4 (by decide)
      · skip
        exact absurd hq3 (by decide)
    · skip
      exact absurd hq2 (by decide)
set_option maxHeartbeats 4000000 in
set_option maxRecDepth 100000 in
theorem c_rjudge6 {κ : hz_C} {z B : Nat} {M : hz_M} {H : ho_H} (hnn : (hoN H).length ≤ 6) (hT4 : (hoT H).length ≤ 4000) (hR : hmR M z B H) {v : Nat} (hv : v < (hoN H).length) {N : nd_N} (hN : ndL (hoN H) v = N) (hup : N.2.1 = true) (hI : ksI N.1) : hz_Mt κ xX12_judge 10 0 0 [.ref B, .int (nI v), .int (nI 6)] z M (hmP M z B (.int (nI (ksV N.1 (hoT H)))) H) := by
  refine hz_ent (lo := [(0, .ref B), (1, .int (nI v)), (2, .int (nI 6))]) (by decide) (Nat.le_of_ble_eq_true rfl) rfl ?_
  obtain ⟨hk0_, hE0, ⟨m1, m2, m3⟩, hNd, a5, a6, a7, a8⟩ := id hR
  obtain ⟨⟨fs, hO, hF⟩, -, -, h8, hz⟩ := id hk0_
  obtain ⟨x1, x3, x4, x5, x6, x7, x8⟩ := id m3
  have eSt : stI (ndL (hoN H) v).2.1 = nI 0 := by rw [hN, hup]; rfl
  refine hz_aloadn (pc := 0) 0 (hz_dec kX12_judge 0 rfl) rfl ?_
  refine hz_iconst (pc := 1) (v := nI 0) (hz_dec kX12_judge 1 rfl) (by decide) ?_
  refine hz_puti (pc := 2) (hz_dec kX12_judge 2 rfl) fo_X12_302 ft_X12_0 hO h8 (by omega) (by rw [hF.1]; decide) ?_
  have hf1 : mfr B [0, 89] [] M (va_up M B (.inr (12, (List.set fs 0 (.int (nI 0)))))) := (mfr.rf ⟨fs, hO, hF⟩).upO (k := 0) hO hF rfl rfl
  have hR1 : hmR (va_up M B (.inr (12, (List.set fs 0 (.int (nI 0)))))) z B H := hR.m0 hf1 hE0.upO ((fdB_of (va_up_self _ _ _) 89).trans ((List.getElem?_set_ne (by decide)).trans ((fdB_of hO 89).symm.trans x8)))
  generalize (va_up M B (.inr (12, (List.set fs 0 (.int (nI 0)))))) = M1 at *
  obtain ⟨hk1, hE1, ⟨n1, d1, q1⟩, hNd1, a51, a61, a71, a81⟩ := id hR1
  obtain ⟨⟨fs1, hO1, hF1⟩, -, -, -, -⟩ := id hk1
  have g95_1 : fs1[95]? = some (.int (nI ((hoT H).length))) := (fdB_of hO1 95).symm.trans a61
  have h0 : mdN M1 B v N := by have q := hNd1 v hv; rw [hN] at q; exact q
  have hv6 : v < 6 := by omega
  have h01 : mnS M1 B v 1 N.1 (pvI (ksF N.1)) (ksP N.1) := by have q := h0.1; rw [hup] at q; exact q
  have h02 : orX (fA M1 B) v (mkO (ksL N.1)) := by have q := h0.2.1; rw [hup] at q; exact q
  obtain ⟨p1, p2, p3, p4, ⟨p5a, p5b, p5c⟩, p6, p7, p9⟩ := id h01
  have hbp := hI.1.p hI.2.1
  obtain ⟨b1, b2, b3, b4, b5, b6, b7, b8⟩ := id hbp
  refine hz_iloadn (pc := 5) 2 (hz_dec kX12_judge 3 rfl) rfl ?_
  refine hz_iconst (pc := 6) (v := nI 5) (hz_dec kX12_judge 4 rfl) (by decide) ?_
  refine hz_n_eq (pc := 7) (tgt := 18) (hz_dec kX12_judge 5 rfl) (by decide) (by omega) (by omega) (fun hq1 => ?_) (fun hq1 => ?_)
  · skip
    exact absurd hq1 (by decide)
  · skip
    refine hz_iloadn (pc := 10) 2 (hz_dec kX12_judge 6 rfl) rfl ?_
    refine hz_bipush (pc := 11) (v := nI 6) (hz_dec kX12_judge 7 rfl) (by decide) ?_
    refine hz_n_eq (pc := 13) (tgt := 18) (hz_dec kX12_judge 8 rfl) (by decide) (by omega) (by omega) (fun hq2 => ?_) (fun hq2 => ?_)
    · skip
      refine hz_aloadn (pc := 18) 0 (hz_dec kX12_judge 11 rfl) rfl ?_
      refine hz_iloadn (pc := 19) 1 (hz_dec kX12_judge 12 rfl) rfl ?_
      refine hz_xV (pc := 20) (a := B) (As := [.int (nI v)]) (st := []) (hz_dec kX12_judge 13 rfl) co_X12_692 im_X12_stateOf se_X12_stateOf rfl hO1 h8 (by omega) (c_st hnn hR1 hv) rfl (by decide) ⟨Nat.le_refl _, Nat.le_refl _⟩ (Nat.le_of_ble_eq_true rfl) rfl ?_
      refine hz_eqi (pc := 23) eSt ?_
      refine hz_istoren (pc := 23) (i := 3) (lo2 := [(3, .int (nI 0)), (0, .ref B), (1, .int (nI v)), (2, .int (nI 6))]) (hz_dec kX12_judge 14 rfl) rfl (by decide) rfl ?_
      refine hz_iloadn (pc := 24) 0 (hz_dec kX12_judge 15 rfl) rfl ?_
      refine hz_z_ge (pc := 25) (tgt := 30) (hz_dec kX12_judge 16 rfl) (by decide) (by omega) ?_
      refine hz_iloadn (pc := 30) 3 (hz_dec kX12_judge 19 rfl) rfl ?_
      refine hz_bipush (pc := 31) (v := nI 6) (hz_dec kX12_judge 20 rfl) (by decide) ?_
      refine hz_n_ne (pc := 33) (tgt := 51) (hz_dec kX12_judge 21 rfl) (by decide) (by omega) (by omega) (fun hq4 => ?_) (fun hq4 => ?_)
      · skip
        exact absurd hq4 (by decide)
      · skip
        refine hz_aloadn (pc := 36) 1 (hz_dec kX12_judge 22 rfl) rfl ?_
        refine hz_iloadn (pc := 37) 2 (hz_dec kX12_judge 23 rfl) rfl ?_
        refine hz_aloadn (pc := 38) 1 (hz_dec kX12_judge 24 rfl) rfl ?_
        refine hz_get (pc := 39) (v := .ref (B + 80)) (hz_dec kX12_judge 25 rfl) fo_X12_261 hO1 h8 (by omega) (hF1.2 94 (by decide) (by decide)) ?_
        refine hz_iconst (pc := 42) (v := nI 0) (hz_dec kX12_judge 26 rfl) (by decide) ?_
        refine hz_aloadn (pc := 43) 1 (hz_dec kX12_judge 27 rfl) rfl ?_
        refine hz_get (pc := 44) (v := .int (nI ((hoT H).length))) (hz_dec kX12_judge 28 rfl) fo_X12_679 hO1 h8 (by omega) g95_1 ?_
        refine hz_callV (pc := 47) (a := B) (As := [.int (nI v), .ref (B + 80), .int (nI 0), .int (nI ((hoT H).length))]) (st := []) (hz_dec kX12_judge 29 rfl) co_X12_578 im_X12_judgeForPool se_X12_judgeForPool rfl hO1 h8 (by omega) (c_jfp hk1 hE1 hv6 (by omega) (by omega) p5a p5b b3 b4 p5c b5 (b6 _ b5) (b7 _ b5).1 (b7 _ b5).2 p7 p6 hI.2.2.2.1 (at_ := 0) hE1.a80 (by omega) (by omega) (ne_off (by decide)) (by decide) a51 (by omega)) rfl (by decide) ⟨Nat.le_refl _, Nat.le_refl _⟩ (Nat.le_of_ble_eq_true rfl) rfl (fun r9 z9 M2 hp9 => ?_)
        obtain ⟨rfl, rfl, hf2, hE2, hcc2, -⟩ := hp9
        have hR2 : hmR M2 z B H := hR1.cv hf2 hE2 (cvK_all hR1 hnn hN (hcc2.k hv6 b5)) rfl rfl rfl rfl rfl rfl rfl rfl rfl rfl rfl rfl rfl rfl rfl rfl rfl rfl 
        exact hz_iret (pc := 50) (hz_dec kX12_judge 30 rfl) rfl ⟨rfl, rfl, (hf1.S rfl).tr (hf2.S rfl), hR2⟩
    · skip
      exact absurd hq2 (by decide)
set_option maxHeartbeats 4000000 in
set_option maxRecDepth 100000 in
theorem c_rjudge5 {κ : hz_C} {z B : Nat} {M : hz_M} {H : ho_H} (hnn : (hoN H).length ≤ 6) (hT4 : (hoT H).length ≤ 4000) (hR : hmR M z B H) {v : Nat} (hv : v < (hoN H).length) {N : nd_N} (hN : ndL (hoN H) v = N) (hup : N.2.1 = true) (hI : ksI N.1) : hz_Mt κ xX12_judge 10 0 0 [.ref B, .int (nI v), .int (nI 5)] z M (hmP M z B (.int (nI (ksJ N.1 (hoT H)))) H) := by
  refine hz_ent (lo := [(0, .ref B), (1, .int (nI v)), (2, .int (nI 5))]) (by decide) (Nat.le_of_ble_eq_true rfl) rfl ?_
  obtain ⟨hk0_, hE0, ⟨m1, m2, m3⟩, hNd, a5, a6, a7, a8⟩ := id hR
  obtain ⟨⟨fs, hO, hF⟩, -, -, h8, hz⟩ := id hk0_
  obtain ⟨x1, x3, x4, x5, x6, x7, x8⟩ := id m3
  have eSt : stI (ndL (hoN H) v).2.1 = nI 0 := by rw [hN, hup]; rfl
  refine hz_aloadn (pc := 0) 0 (hz_dec kX12_judge 0 rfl) rfl ?_
  refine hz_iconst (pc := 1) (v := nI 0) (hz_dec kX12_judge 1 rfl) (by decide) ?_
  refine hz_puti (pc := 2) (hz_dec kX12_judge 2 rfl) fo_X12_302 ft_X12_0 hO h8 (by omega) (by rw [hF.1]; decide) ?_
  have hf1 : mfr B [0, 89] [] M (va_up M B (.inr (12, (List.set fs 0 (.int (nI 0)))))) := (mfr.rf ⟨fs, hO, hF⟩).upO (k := 0) hO hF rfl rfl
  have hR1 : hmR (va_up M B (.inr (12, (List.set fs 0 (.int (nI 0)))))) z B H := hR.m0 hf1 hE0.upO ((fdB_of (va_up_self _ _ _) 89).trans ((List.getElem?_set_ne (by decide)).trans ((fdB_of hO 89).symm.trans x8)))
  generalize (va_up M B (.inr (12, (List.set fs 0 (.int (nI 0)))))) = M1 at *
  obtain ⟨hk1, hE1, ⟨n1, d1, q1⟩, hNd1, a51, a61, a71, a81⟩ := id hR1
  obtain ⟨⟨fs1, hO1, hF1⟩, -, -, -, -⟩ := id hk1
  have g95_1 : fs1[95]? = some (.int (nI ((hoT H).length))) := (fdB_of hO1 95).symm.trans a61
  refine hz_iloadn (pc := 5) 2 (hz_dec kX12_judge 3 rfl) rfl ?_
  refine hz_iconst (pc := 6) (v := nI 5) (hz_dec kX12_judge 4 rfl) (by decide) ?_
  refine hz_n_eq (pc := 7) (tgt := 18) (hz_dec kX12_judge 5 rfl) (by decide) (by omega) (by omega) (fun hq1 => ?_) (fun hq1 => ?_)
  · skip
    refine hz_aloadn (pc := 18) 0 (hz_dec kX12_judge 11 rfl) rfl ?_
    refine hz_iloadn (pc := 19) 1 (hz_dec kX12_judge 12 rfl) rfl ?_
    refine hz_xV (pc := 20) (a := B) (As := [.int (nI v)]) (st := []) (hz_dec kX12_judge 13 rfl) co_X12_692 im_X12_stateOf se_X12_stateOf rfl hO1 h8 (by omega) (c_st hnn hR1 hv) rfl (by decide) ⟨Nat.le_refl _, Nat.le_refl _⟩ (Nat.le_of_ble_eq_true rfl) rfl ?_
    refine hz_eqi (pc := 23) eSt ?_
    refine hz_istoren (pc := 23) (i := 3) (lo2 := [(3, .int (nI 0)), (0, .ref B), (1, .int (nI v)), (2, .int (nI 5))]) (hz_dec kX12_judge 14 rfl) rfl (by decide) rfl ?_
    refine hz_iloadn (pc := 24) 0 (hz_dec kX12_judge 15 rfl) rfl ?_
    refine hz_z_ge (pc := 25) (tgt := 30) (hz_dec kX12_judge 16 rfl) (by decide) (by omega) ?_
    refine hz_iloadn (pc := 30) 3 (hz_dec kX12_judge 19 rfl) rfl ?_
    refine hz_bipush (pc := 31) (v := nI 6) (hz_dec kX12_judge 20 rfl) (by decide) ?_
    refine hz_n_ne (pc := 33) (tgt := 51) (hz_dec kX12_judge 21 rfl) (by decide) (by omega) (by omega) (fun hq3 => ?_) (fun hq3 => ?_)
    · skip
      refine hz_aloadn (pc := 51) 1 (hz_dec kX12_judge 31 rfl) rfl ?_
      refine hz_callV (pc := 52) (a := B) (As := []) (st := []) (hz_dec kX12_judge 32 rfl) co_X12_702 im_X12_tapeToInbox se_X12_tapeToInbox rfl hO1 h8 (by omega) (c_tTI hk1.1 hE1 h8 hz hT4 a51 a61) rfl (by decide) ⟨Nat.le_refl _, Nat.le_refl _⟩ (Nat.le_of_ble_eq_true rfl) rfl (fun r9 z9 M2 hp9 => ?_)
      obtain ⟨rfl, rfl, hf2, hE2_, h78, h92⟩ := hp9
      have hR2 : hmR M2 z B H := hR1.sc hf2 hE2_ rfl rfl rfl rfl rfl rfl rfl rfl rfl rfl rfl rfl rfl rfl rfl rfl rfl rfl rfl
      obtain ⟨hk2, hE2, ⟨n2, d2, q2⟩, hNd2, a52, a62, a72, a82⟩ := id hR2
      obtain ⟨⟨fs2, hO2, hF2⟩, -, -, -, -⟩ := id hk2
      refine hz_aloadn (pc := 55) 1 (hz_dec kX12_judge 33 rfl) rfl ?_
      refine hz_callV (pc := 56) (a := B) (As := []) (st := []) (hz_dec kX12_judge 34 rfl) co_X12_670 im_X12_inboxToBody se_X12_inboxToBody rfl hO2 h8 (by omega) (c_iTB hk2.1 hE2 h8 hz hT4 h78 h92) rfl (by decide) ⟨Nat.le_refl _, Nat.le_refl _⟩ (Nat.le_of_ble_eq_true rfl) rfl (fun r9 z9 M3 hp9 => ?_)
      obtain ⟨rfl, rfl, hf3, hE3_, h35, h39⟩ := hp9
      have hR3 : hmR M3 z B H := hR2.sc hf3 hE3_ rfl rfl rfl rfl rfl rfl rfl rfl rfl rfl rfl rfl rfl rfl rfl rfl rfl rfl rfl
      obtain ⟨hk3, hE3, ⟨n3, d3, q3⟩, hNd3, a53, a63, a73, a83⟩ := id hR3
      obtain ⟨⟨fs3, hO3, hF3⟩, -, -, -, -⟩ := id hk3
      have h0 : mdN M3 B v N := by have q := hNd3 v hv; rw [hN] at q; exact q
      have hv6 : v < 6 := by omega
      have h01 : mnS M3 B v 1 N.1 (pvI (ksF N.1)) (ksP N.1) := by have q := h0.1; rw [hup] at q; exact q
      have h02 : orX (fA M3 B) v (mkO (ksL N.1)) := by have q := h0.2.1; rw [hup] at q; exact q
      obtain ⟨p1, p2, p3, p4, ⟨p5a, p5b, p5c⟩, p6, p7, p9⟩ := id h01
      have hbp := hI.1.p hI.2.1
      obtain ⟨b1, b2, b3, b4, b5, b6, b7, b8⟩ := id hbp
      have hnx : ksN N.1 ≤ 12288 := hI.1.2.2.2.1
      refine hz_aloadn (pc := 59) 1 (hz_dec kX12_judge 35 rfl) rfl ?_
      refine hz_iloadn (pc := 60) 2 (hz_dec kX12_judge 36 rfl) rfl ?_
      refine hz_iconst (pc := 61) (v := nI 1) (hz_dec kX12_judge 37 rfl) (by decide) ?_
      refine hz_callV (pc := 62) (a := B) (As := [.int (nI v), .int (nI 1)]) (st := []) (hz_dec kX12_judge 38 rfl) co_X12_603 im_X12_judgeBody se_X12_judgeBody rfl hO3 h8 (by omega) (c_jBod2 (od := true) hk3 hE3 h35 hT4 h39 hv6 (by omega) (by omega) (by omega) p5a p5b b3 b4 p5c b6 b7 p7 p3 (by omega)) rfl (by decide) ⟨Nat.le_refl _, Nat.le_refl _⟩ (Nat.le_of_ble_eq_true rfl) rfl (fun r9 z9 M4 hp9 => ?_)
      obtain ⟨rfl, rfl, hf4, hE4, hcv4, -, -⟩ := hp9
      have hR4 : hmR M4 z B H := hR3.cv hf4 hE4 (cvK_all hR3 hnn hN hcv4) rfl rfl rfl rfl rfl rfl rfl rfl rfl rfl rfl rfl rfl rfl rfl rfl rfl rfl 
      exact hz_iret (pc := 65) (hz_dec kX12_judge 39 rfl) rfl ⟨rfl, rfl, (((hf1.S rfl).tr (hf2.S rfl)).tr (hf3.S rfl)).tr (hf4.S rfl), hR4⟩
    · skip
      exact absurd hq3 (by decide)
  · skip
    exact absurd hq1 (by decide)
