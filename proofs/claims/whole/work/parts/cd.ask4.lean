/-! at, due -/
theorem nI_neg {x : Nat} {h : Int32} (hx : x < 2 ^ 31) (hh : h < 0) : ¬ nI x ≤ h := by
  intro c
  rw [Int32.le_iff_toInt_le, nI_toInt hx] at c
  rw [Int32.lt_iff_toInt_lt] at hh
  have z : (0 : Int32).toInt = 0 := rfl
  omega
theorem hoS_id {H : ho_H} {v : Nat} {N : nd_N} (hv : v < (hoN H).length) (hN : ndL (hoN H) v = N) : hoS H v N (hoQ H) = H := by
  have e : (hoN H)[v] = N := by
    unfold ndL at hN
    rw [List.getD_eq_getElem?_getD, List.getElem?_eq_getElem hv] at hN
    exact hN
  have e2 : (hoN H).set v N = hoN H := by rw [← e]; exact List.set_getElem_self hv
  show ((hoN H).set v N, hoQ H, hoW H, hoD H, hoT H, hoI H, hoU H, hoE H) = H
  rw [e2]
  rfl
set_option maxHeartbeats 4000000 in
set_option maxRecDepth 100000 in
theorem c_mAtN_l {κ : hz_C} {z : Nat} {M : hz_M} {B : Nat} (hO_ : md_O M B) (hE : mdE M B) (h8 : 8 ≤ B) (hz : B + 88 ≤ z) {v nb : Nat} {en : List en_E} (hv : v < 6) (hnb : nb ≤ 128) (hne : nb ≤ en.length) (hR : rvX (fA M B) v nb en) (hwf : wfE en) {tip : Nat} (ht : tip < nb) {h_ : Int32} (hh : h_ < 0) : ∀ k i, k = eH en tip - i → i ≤ eH en tip → hz_W κ xX12_atHeight 1 0 0 (hz_ex (some (.int (-1))) z M) 0 0 3 [(4, .int (nI (upE en tip i))), (0, .ref B), (1, .int (nI v)), (2, .int (nI tip)), (3, .int h_)] [] z M := by
  intro k
  induction k using Nat.strongRecOn with
  | ind k ih =>
  intro i hk hi
  obtain ⟨fs, hO, hF⟩ := id hO_
  have hup := hwf.up (k := tip) (by omega) i (by omega)
  have hR1 := (hR (upE en tip i) (by omega)).1 (by omega)
  have hht := hwf.ht (k := tip) (by omega)
  refine hz_iload (pc := 3) 0 (hz_dec kX12_atHeight 2 rfl) rfl ?_
  refine hz_z_lt (pc := 5) (tgt := 39) (hz_dec kX12_atHeight 3 rfl) (by decide) (by omega) ?_
  refine hz_aloadn (pc := 8) 1 (hz_dec kX12_atHeight 4 rfl) rfl ?_
  refine hz_get (pc := 9) (v := .ref (B + 27)) (hz_dec kX12_atHeight 5 rfl) fo_X12_92 hO h8 (by omega) (hF.2 29 (by decide) (by decide)) ?_
  refine hz_iloadn (pc := 12) 2 (hz_dec kX12_atHeight 6 rfl) rfl ?_
  refine hz_iload (pc := 13) 0 (hz_dec kX12_atHeight 7 rfl) rfl ?_
  refine hz_xS (pc := 15) (As := [.int (nI v), .int (nI (upE en tip i))]) (st := [.ref (B + 27)]) (hz_dec kX12_atHeight 8 rfl) co_X12_419 sc_X12_at0 (c_at0) rfl (by decide) ⟨Nat.le_refl _, Nat.le_refl _⟩ (Nat.le_of_ble_eq_true rfl) rfl ?_
  refine hz_iald (pc := 18) (j := 128 * v + upE en tip i) (hz_dec kX12_atHeight 9 rfl) hE.a27 (by omega) (by omega) rfl (by omega) (by decide) ?_
  refine hz_eqi (pc := 19) hR1.2.1 ?_
  refine hz_iloadn (pc := 19) 4 (hz_dec kX12_atHeight 10 rfl) rfl ?_
  refine hz_icmp_le (pc := 20) (tgt := 39) (hz_dec kX12_atHeight 11 rfl) (by decide) (fun h3 => ?_) (fun h3 => ?_)
  · skip
    exact absurd h3 (nI_neg (by omega) hh)
  · skip
    refine hz_aloadn (pc := 23) 1 (hz_dec kX12_atHeight 12 rfl) rfl ?_
    refine hz_get (pc := 24) (v := .ref (B + 26)) (hz_dec kX12_atHeight 13 rfl) fo_X12_89 hO h8 (by omega) (hF.2 28 (by decide) (by decide)) ?_
    refine hz_iloadn (pc := 27) 2 (hz_dec kX12_atHeight 14 rfl) rfl ?_
    refine hz_iload (pc := 28) 0 (hz_dec kX12_atHeight 15 rfl) rfl ?_
    refine hz_xS (pc := 30) (As := [.int (nI v), .int (nI (upE en tip i))]) (st := [.ref (B + 26)]) (hz_dec kX12_atHeight 16 rfl) co_X12_419 sc_X12_at0 (c_at0) rfl (by decide) ⟨Nat.le_refl _, Nat.le_refl _⟩ (Nat.le_of_ble_eq_true rfl) rfl ?_
    refine hz_iald (pc := 33) (j := 128 * v + upE en tip i) (hz_dec kX12_atHeight 17 rfl) hE.a26 (by omega) (by omega) rfl (by omega) (by decide) ?_
    rcases (show i < eH en tip ∨ i = eH en tip by omega) with c | c
    · skip
      have hup2 := hwf.up (k := tip) (by omega) (i + 1) (by omega)
      refine hz_eqi (pc := 34) (show _ = nI (upE en tip (i + 1)) by rw [hR1.1, hwf.pv (k := tip) (by omega) c]; show nI (rx nb _) = _; rw [rx_lt (by omega)]) ?_
      refine hz_istore (pc := 34) (i := 4) (lo2 := [(4, .int (nI (upE en tip (i + 1)))), (0, .ref B), (1, .int (nI v)), (2, .int (nI tip)), (3, .int h_)]) (hz_dec kX12_atHeight 18 rfl) (by decide) rfl ?_
      refine hz_goto (pc := 36) (tgt := 3) (hz_dec kX12_atHeight 19 rfl) (by decide) ?_
      refine hz_pick (pc := 3) [0, 1, 2, 3, 4] rfl ?_
      exact ih (eH en tip - (i + 1)) (by omega) (i + 1) rfl (by omega)
    · skip
      have e26 := (hwf.top (k := tip) (by omega)).2
      rw [← c] at e26
      refine hz_eqi (pc := 34) (show _ = (-1) by rw [hR1.1, e26]; rfl) ?_
      refine hz_istore (pc := 34) (i := 4) (lo2 := [(4, .int (-1)), (0, .ref B), (1, .int (nI v)), (2, .int (nI tip)), (3, .int h_)]) (hz_dec kX12_atHeight 18 rfl) (by decide) rfl ?_
      refine hz_goto (pc := 36) (tgt := 3) (hz_dec kX12_atHeight 19 rfl) (by decide) ?_
      refine hz_iload (pc := 3) 0 (hz_dec kX12_atHeight 2 rfl) rfl ?_
      refine hz_if_lt (pc := 5) (tgt := 39) (hz_dec kX12_atHeight 3 rfl) (by decide) (fun h5 => ?_) (fun h5 => ?_)
      · skip
        refine hz_iloadn (pc := 39) 4 (hz_dec kX12_atHeight 20 rfl) rfl ?_
        refine hz_if_lt (pc := 40) (tgt := 58) (hz_dec kX12_atHeight 21 rfl) (by decide) (fun h6 => ?_) (fun h6 => ?_)
        · skip
          refine hz_iconst (pc := 58) (v := (-1)) (hz_dec kX12_atHeight 30 rfl) (by decide) ?_
          refine hz_goto (pc := 59) (tgt := 64) (hz_dec kX12_atHeight 31 rfl) (by decide) ?_
          exact hz_iret (pc := 64) (hz_dec kX12_atHeight 33 rfl) rfl ⟨rfl, rfl, rfl⟩
        · skip
          exact absurd hh h6
      · skip
        exact absurd h5 (by decide)
set_option maxHeartbeats 4000000 in
set_option maxRecDepth 100000 in
theorem c_mAtN {κ : hz_C} {z : Nat} {M : hz_M} {B : Nat} (hO_ : md_O M B) (hE : mdE M B) (h8 : 8 ≤ B) (hz : B + 88 ≤ z) {v nb : Nat} {en : List en_E} (hv : v < 6) (hnb : nb ≤ 128) (hne : nb ≤ en.length) (hR : rvX (fA M B) v nb en) (hwf : wfE en) {tip : Nat} (ht : tip < nb) {h_ : Int32} (hh : h_ < 0 ∨ ¬ h_ ≤ nI (eH en tip)) : hz_Mt κ xX12_atHeight 1 0 0 [.ref B, .int (nI v), .int (nI tip), .int h_] z M (hz_ex (some (.int (-1))) z M) := by
  refine hz_ent (lo := [(0, .ref B), (1, .int (nI v)), (2, .int (nI tip)), (3, .int h_)]) (by decide) (Nat.le_of_ble_eq_true rfl) rfl ?_
  by_cases c : h_ < 0
  · skip
    refine hz_iloadn (pc := 0) 2 (hz_dec kX12_atHeight 0 rfl) rfl ?_
    refine hz_istore (pc := 1) (i := 4) (lo2 := [(4, .int (nI tip)), (0, .ref B), (1, .int (nI v)), (2, .int (nI tip)), (3, .int h_)]) (hz_dec kX12_atHeight 1 rfl) (by decide) rfl ?_
    refine hz_pick (pc := 3) [0, 1, 2, 3, 4] rfl ?_
    exact c_mAtN_l hO_ hE h8 hz hv hnb hne hR hwf ht c (eH en tip) 0 rfl (by omega)
  · skip
    have hg := hh.resolve_left c
    obtain ⟨fs, hO, hF⟩ := id hO_
    have hR1 := (hR tip (by omega)).1 (by omega)
    refine hz_iloadn (pc := 0) 2 (hz_dec kX12_atHeight 0 rfl) rfl ?_
    refine hz_istore (pc := 1) (i := 4) (lo2 := [(4, .int (nI tip)), (0, .ref B), (1, .int (nI v)), (2, .int (nI tip)), (3, .int h_)]) (hz_dec kX12_atHeight 1 rfl) (by decide) rfl ?_
    refine hz_iload (pc := 3) 0 (hz_dec kX12_atHeight 2 rfl) rfl ?_
    refine hz_z_lt (pc := 5) (tgt := 39) (hz_dec kX12_atHeight 3 rfl) (by decide) (by omega) ?_
    refine hz_aloadn (pc := 8) 1 (hz_dec kX12_atHeight 4 rfl) rfl ?_
    refine hz_get (pc := 9) (v := .ref (B + 27)) (hz_dec kX12_atHeight 5 rfl) fo_X12_92 hO h8 (by omega) (hF.2 29 (by decide) (by decide)) ?_
    refine hz_iloadn (pc := 12) 2 (hz_dec kX12_atHeight 6 rfl) rfl ?_
    refine hz_iload (pc := 13) 0 (hz_dec kX12_atHeight 7 rfl) rfl ?_
    refine hz_xS (pc := 15) (As := [.int (nI v), .int (nI tip)]) (st := [.ref (B + 27)]) (hz_dec kX12_atHeight 8 rfl) co_X12_419 sc_X12_at0 (c_at0) rfl (by decide) ⟨Nat.le_refl _, Nat.le_refl _⟩ (Nat.le_of_ble_eq_true rfl) rfl ?_
    refine hz_iald (pc := 18) (j := 128 * v + tip) (hz_dec kX12_atHeight 9 rfl) hE.a27 (by omega) (by omega) rfl (by omega) (by decide) ?_
    refine hz_eqi (pc := 19) hR1.2.1 ?_
    refine hz_iloadn (pc := 19) 4 (hz_dec kX12_atHeight 10 rfl) rfl ?_
    refine hz_icmp_le (pc := 20) (tgt := 39) (hz_dec kX12_atHeight 11 rfl) (by decide) (fun h3 => ?_) (fun h3 => ?_)
    · skip
      refine hz_iloadn (pc := 39) 4 (hz_dec kX12_atHeight 20 rfl) rfl ?_
      refine hz_if_lt (pc := 40) (tgt := 58) (hz_dec kX12_atHeight 21 rfl) (by decide) (fun h4 => ?_) (fun h4 => ?_)
      · skip
        exact absurd h4 c
      · skip
        refine hz_aloadn (pc := 43) 1 (hz_dec kX12_atHeight 22 rfl) rfl ?_
        refine hz_get (pc := 44) (v := .ref (B + 27)) (hz_dec kX12_atHeight 23 rfl) fo_X12_92 hO h8 (by omega) (hF.2 29 (by decide) (by decide)) ?_
        refine hz_iloadn (pc := 47) 2 (hz_dec kX12_atHeight 24 rfl) rfl ?_
        refine hz_iload (pc := 48) 0 (hz_dec kX12_atHeight 25 rfl) rfl ?_
        refine hz_xS (pc := 50) (As := [.int (nI v), .int (nI tip)]) (st := [.ref (B + 27)]) (hz_dec kX12_atHeight 26 rfl) co_X12_419 sc_X12_at0 (c_at0) rfl (by decide) ⟨Nat.le_refl _, Nat.le_refl _⟩ (Nat.le_of_ble_eq_true rfl) rfl ?_
        refine hz_iald (pc := 53) (j := 128 * v + tip) (hz_dec kX12_atHeight 27 rfl) hE.a27 (by omega) (by omega) rfl (by omega) (by decide) ?_
        refine hz_eqi (pc := 54) hR1.2.1 ?_
        refine hz_iloadn (pc := 54) 4 (hz_dec kX12_atHeight 28 rfl) rfl ?_
        refine hz_icmp_eq (pc := 55) (tgt := 62) (hz_dec kX12_atHeight 29 rfl) (by decide) (fun h5 => ?_) (fun h5 => ?_)
        · skip
          exact absurd (Int32.le_of_eq h5.symm) hg
        · skip
          refine hz_iconst (pc := 58) (v := (-1)) (hz_dec kX12_atHeight 30 rfl) (by decide) ?_
          refine hz_goto (pc := 59) (tgt := 64) (hz_dec kX12_atHeight 31 rfl) (by decide) ?_
          exact hz_iret (pc := 64) (hz_dec kX12_atHeight 33 rfl) rfl ⟨rfl, rfl, rfl⟩
    · skip
      exact absurd (Int32.le_of_lt (Int32.not_le.mp h3)) hg
set_option maxHeartbeats 4000000 in
set_option maxRecDepth 100000 in
theorem c_atN {κ : hz_C} {z : Nat} {M : hz_M} {H : ho_H} (hz : 63 + 34 * (hoN H).length ≤ z) (hnn : (hoN H).length ≤ 6) (hT4 : (hoT H).length ≤ 4000) {ll : Nat} {fr kn : Int32} (hR : hcR M z H ll fr kn) {v : Int32} {h_ : Int32} (hv : v < 0 ∨ ¬ v < nI (hoN H).length) : hz_Mt κ xX11_at 2 0 0 [.ref 8, .int v, .int h_] z M (hcP M z H (.int (-1)) H) := by
  refine hz_ent (lo := [(0, .ref 8), (1, .int v), (2, .int h_)]) (by decide) (Nat.le_of_ble_eq_true rfl) rfl ?_
  have hH := hR.1
  have hNs := hR.2.1
  obtain ⟨hO, hQ, hD⟩ := id hR.2.2.2.2.1
  obtain ⟨g53, h53⟩ := hR.2.2.2.2.2.1
  have hJ := hR.2.2.2.1
  obtain ⟨g56, h56, hT56⟩ := hR.2.2.2.2.2.2.2.2.2.1
  have hdf := hR.2.2.2.2.2.2.2.2.2.2
  have hck : ck_k M z := hJ.2.2.2.2.2.2.2.1
  have hcs : ck_s M := hJ.2.2.2.2.2.2.2.2.1
  have hz63 : 63 ≤ z := by omega
  refine hz_aloadn (pc := 0) 0 (hz_dec kX11_at 0 rfl) rfl ?_
  refine hz_iloadn (pc := 1) 1 (hz_dec kX11_at 1 rfl) rfl ?_
  refine hz_xV (pc := 2) (a := 8) (As := [.int v]) (st := []) (hz_dec kX11_at 2 rfl) co_X11_162 im_X11_nodeOf se_X11_nodeOf rfl hH (by omega) (by omega) (c_nOfN hz63 hH hnn hNs hv) rfl (by decide) ⟨Nat.le_refl _, Nat.le_refl _⟩ (Nat.le_of_ble_eq_true rfl) rfl ?_
  refine hz_astorenN (pc := 5) (i := 3) (lo2 := [(3, .null), (0, .ref 8), (1, .int v), (2, .int h_)]) (hz_dec kX11_at 3 rfl) rfl (by decide) rfl ?_
  refine hz_aloadnN (pc := 6) 0 (hz_dec kX11_at 4 rfl) rfl ?_
  refine hz_ifnonnullN (pc := 7) (hz_dec kX11_at 5 rfl) ?_
  refine hz_iconst (pc := 10) (v := (-1)) (hz_dec kX11_at 6 rfl) (by decide) ?_
  exact hz_iret (pc := 11) (hz_dec kX11_at 7 rfl) rfl (hcP.no hR _)
set_option maxHeartbeats 4000000 in
set_option maxRecDepth 100000 in
theorem c_ratN {κ : hz_C} {z B : Nat} {M : hz_M} {H : ho_H} (hnn : (hoN H).length ≤ 6) (hT4 : (hoT H).length ≤ 4000) (hR : hmR M z B H) {v : Int32} {h_ : Int32} (hv : v < 0 ∨ ¬ v < nI (hoN H).length) : hz_Mt κ xX12_at 3 0 0 [.ref B, .int v, .int h_] z M (hmP M z B (.int (-1)) H) := by
  refine hz_ent (lo := [(0, .ref B), (1, .int v), (2, .int h_)]) (by decide) (Nat.le_of_ble_eq_true rfl) rfl ?_
  obtain ⟨hk0_, hE0, ⟨m1, m2, m3⟩, hNd, a5, a6, a7, a8⟩ := id hR
  obtain ⟨⟨fs, hO, hF⟩, -, -, h8, hz⟩ := id hk0_
  obtain ⟨x1, x3, x4, x5, x6, x7, x8⟩ := id m3
  refine hz_aloadn (pc := 0) 0 (hz_dec kX12_at 0 rfl) rfl ?_
  refine hz_iconst (pc := 1) (v := nI 0) (hz_dec kX12_at 1 rfl) (by decide) ?_
  refine hz_puti (pc := 2) (hz_dec kX12_at 2 rfl) fo_X12_302 ft_X12_0 hO h8 (by omega) (by rw [hF.1]; decide) ?_
  have hf1 : mfr B [0, 89] [] M (va_up M B (.inr (12, (List.set fs 0 (.int (nI 0)))))) := (mfr.rf ⟨fs, hO, hF⟩).upO (k := 0) hO hF rfl rfl
  have hR1 : hmR (va_up M B (.inr (12, (List.set fs 0 (.int (nI 0)))))) z B H := hR.m0 hf1 hE0.upO ((fdB_of (va_up_self _ _ _) 89).trans ((List.getElem?_set_ne (by decide)).trans ((fdB_of hO 89).symm.trans x8)))
  generalize (va_up M B (.inr (12, (List.set fs 0 (.int (nI 0)))))) = M1 at *
  obtain ⟨hk1, hE1, ⟨n1, d1, q1⟩, hNd1, a51, a61, a71, a81⟩ := id hR1
  obtain ⟨⟨fs1, hO1, hF1⟩, -, -, -, -⟩ := id hk1
  refine hz_aloadn (pc := 5) 0 (hz_dec kX12_at 3 rfl) rfl ?_
  refine hz_iloadn (pc := 6) 1 (hz_dec kX12_at 4 rfl) rfl ?_
  refine hz_xV (pc := 7) (a := B) (As := [.int v]) (st := []) (hz_dec kX12_at 5 rfl) co_X12_692 im_X12_stateOf se_X12_stateOf rfl hO1 h8 (by omega) (c_stN hnn hR1 hv) rfl (by decide) ⟨Nat.le_refl _, Nat.le_refl _⟩ (Nat.le_of_ble_eq_true rfl) rfl ?_
  refine hz_istoren (pc := 10) (i := 3) (lo2 := [(3, .int (-1)), (0, .ref B), (1, .int v), (2, .int h_)]) (hz_dec kX12_at 6 rfl) rfl (by decide) rfl ?_
  refine hz_iloadn (pc := 11) 0 (hz_dec kX12_at 7 rfl) rfl ?_
  refine hz_if_ge (pc := 12) (tgt := 17) (hz_dec kX12_at 8 rfl) (by decide) (fun hq1 => ?_) (fun hq1 => ?_)
  · skip
    exact absurd hq1 (by decide)
  · skip
    refine hz_iloadn (pc := 15) 0 (hz_dec kX12_at 9 rfl) rfl ?_
    exact hz_iret (pc := 16) (hz_dec kX12_at 10 rfl) rfl ⟨rfl, rfl, hf1.S rfl, hR1⟩
set_option maxHeartbeats 4000000 in
set_option maxRecDepth 100000 in
theorem c_atD {κ : hz_C} {z : Nat} {M : hz_M} {H : ho_H} (hz : 63 + 34 * (hoN H).length ≤ z) (hnn : (hoN H).length ≤ 6) (hT4 : (hoT H).length ≤ 4000) {ll : Nat} {fr kn : Int32} (hR : hcR M z H ll fr kn) {v : Nat} (hv : v < (hoN H).length) {N : nd_N} (hN : ndL (hoN H) v = N) {h_ : Int32} (hup : N.2.1 = false) : hz_Mt κ xX11_at 2 0 0 [.ref 8, .int (nI v), .int h_] z M (hcP M z H (.int (-2)) H) := by
  refine hz_ent (lo := [(0, .ref 8), (1, .int (nI v)), (2, .int h_)]) (by decide) (Nat.le_of_ble_eq_true rfl) rfl ?_
  have hH := hR.1
  have hNs := hR.2.1
  obtain ⟨hO, hQ, hD⟩ := id hR.2.2.2.2.1
  obtain ⟨g53, h53⟩ := hR.2.2.2.2.2.1
  have hJ := hR.2.2.2.1
  obtain ⟨g56, h56, hT56⟩ := hR.2.2.2.2.2.2.2.2.2.1
  have hdf := hR.2.2.2.2.2.2.2.2.2.2
  have hck : ck_k M z := hJ.2.2.2.2.2.2.2.1
  have hcs : ck_s M := hJ.2.2.2.2.2.2.2.2.1
  have hz63 : 63 ≤ z := by omega
  have hK := hR.2.2.1 v hv
  rw [hN] at hK
  obtain ⟨hn, ⟨gd, hgd, hgD⟩, hT, hC, hP, hL⟩ := id hK
  have hn : M (63 + 34 * v) = ndO (63 + 34 * v) (nI v) (nI 0) (nI (ksN N.1)) (pvI (ksF N.1)) N.2.2.1 N.2.2.2 := by rw [hup] at hn; exact hn
  refine hz_aloadn (pc := 0) 0 (hz_dec kX11_at 0 rfl) rfl ?_
  refine hz_iloadn (pc := 1) 1 (hz_dec kX11_at 1 rfl) rfl ?_
  refine hz_xV (pc := 2) (a := 8) (As := [.int (nI v)]) (st := []) (hz_dec kX11_at 2 rfl) co_X11_162 im_X11_nodeOf se_X11_nodeOf rfl hH (by omega) (by omega) (c_nOf hz63 hH hnn hNs (b := v) hv) rfl (by decide) ⟨Nat.le_refl _, Nat.le_refl _⟩ (Nat.le_of_ble_eq_true rfl) rfl ?_
  refine hz_astoren (pc := 5) (i := 3) (lo2 := [(3, .ref (63 + 34 * v)), (0, .ref 8), (1, .int (nI v)), (2, .int h_)]) (hz_dec kX11_at 3 rfl) rfl (by decide) rfl ?_
  refine hz_aloadn (pc := 6) 0 (hz_dec kX11_at 4 rfl) rfl ?_
  refine hz_ifnonnull (pc := 7) (tgt := 12) (hz_dec kX11_at 5 rfl) (by decide) ?_
  refine hz_aloadn (pc := 12) 0 (hz_dec kX11_at 8 rfl) rfl ?_
  refine hz_get (pc := 13) (hz_dec kX11_at 9 rfl) fo_X11_166 hn (by omega) (by omega) rfl ?_
  refine hz_z_ne (pc := 16) (tgt := 22) (hz_dec kX11_at 10 rfl) (by decide) (by omega) (fun hq1 => ?_) (fun hq1 => ?_)
  · skip
    exact absurd hq1 (by decide)
  · skip
    refine hz_bipush (pc := 19) (v := (-2)) (hz_dec kX11_at 11 rfl) (by decide) ?_
    exact hz_iret (pc := 21) (hz_dec kX11_at 12 rfl) rfl (hcP.no hR _)
set_option maxHeartbeats 4000000 in
set_option maxRecDepth 100000 in
theorem c_ratD {κ : hz_C} {z B : Nat} {M : hz_M} {H : ho_H} (hnn : (hoN H).length ≤ 6) (hT4 : (hoT H).length ≤ 4000) (hR : hmR M z B H) {v : Nat} (hv : v < (hoN H).length) {N : nd_N} (hN : ndL (hoN H) v = N) {h_ : Int32} (hup : N.2.1 = false) : hz_Mt κ xX12_at 3 0 0 [.ref B, .int (nI v), .int h_] z M (hmP M z B (.int (-2)) H) := by
  refine hz_ent (lo := [(0, .ref B), (1, .int (nI v)), (2, .int h_)]) (by decide) (Nat.le_of_ble_eq_true rfl) rfl ?_
  obtain ⟨hk0_, hE0, ⟨m1, m2, m3⟩, hNd, a5, a6, a7, a8⟩ := id hR
  obtain ⟨⟨fs, hO, hF⟩, -, -, h8, hz⟩ := id hk0_
  obtain ⟨x1, x3, x4, x5, x6, x7, x8⟩ := id m3
  have eSt : stI (ndL (hoN H) v).2.1 = (-2) := by rw [hN, hup]; rfl
  refine hz_aloadn (pc := 0) 0 (hz_dec kX12_at 0 rfl) rfl ?_
  refine hz_iconst (pc := 1) (v := nI 0) (hz_dec kX12_at 1 rfl) (by decide) ?_
  refine hz_puti (pc := 2) (hz_dec kX12_at 2 rfl) fo_X12_302 ft_X12_0 hO h8 (by omega) (by rw [hF.1]; decide) ?_
  have hf1 : mfr B [0, 89] [] M (va_up M B (.inr (12, (List.set fs 0 (.int (nI 0)))))) := (mfr.rf ⟨fs, hO, hF⟩).upO (k := 0) hO hF rfl rfl
  have hR1 : hmR (va_up M B (.inr (12, (List.set fs 0 (.int (nI 0)))))) z B H := hR.m0 hf1 hE0.upO ((fdB_of (va_up_self _ _ _) 89).trans ((List.getElem?_set_ne (by decide)).trans ((fdB_of hO 89).symm.trans x8)))
  generalize (va_up M B (.inr (12, (List.set fs 0 (.int (nI 0)))))) = M1 at *
  obtain ⟨hk1, hE1, ⟨n1, d1, q1⟩, hNd1, a51, a61, a71, a81⟩ := id hR1
  obtain ⟨⟨fs1, hO1, hF1⟩, -, -, -, -⟩ := id hk1
  refine hz_aloadn (pc := 5) 0 (hz_dec kX12_at 3 rfl) rfl ?_
  refine hz_iloadn (pc := 6) 1 (hz_dec kX12_at 4 rfl) rfl ?_
  refine hz_xV (pc := 7) (a := B) (As := [.int (nI v)]) (st := []) (hz_dec kX12_at 5 rfl) co_X12_692 im_X12_stateOf se_X12_stateOf rfl hO1 h8 (by omega) (c_st hnn hR1 hv) rfl (by decide) ⟨Nat.le_refl _, Nat.le_refl _⟩ (Nat.le_of_ble_eq_true rfl) rfl ?_
  refine hz_eqi (pc := 10) eSt ?_
  refine hz_istoren (pc := 10) (i := 3) (lo2 := [(3, .int (-2)), (0, .ref B), (1, .int (nI v)), (2, .int h_)]) (hz_dec kX12_at 6 rfl) rfl (by decide) rfl ?_
  refine hz_iloadn (pc := 11) 0 (hz_dec kX12_at 7 rfl) rfl ?_
  refine hz_if_ge (pc := 12) (tgt := 17) (hz_dec kX12_at 8 rfl) (by decide) (fun hq1 => ?_) (fun hq1 => ?_)
  · skip
    exact absurd hq1 (by decide)
  · skip
    refine hz_iloadn (pc := 15) 0 (hz_dec kX12_at 9 rfl) rfl ?_
    exact hz_iret (pc := 16) (hz_dec kX12_at 10 rfl) rfl ⟨rfl, rfl, hf1.S rfl, hR1⟩
set_option maxHeartbeats 4000000 in
set_option maxRecDepth 100000 in
theorem c_atH {κ : hz_C} {z : Nat} {M : hz_M} {H : ho_H} (hz : 63 + 34 * (hoN H).length ≤ z) (hnn : (hoN H).length ≤ 6) (hT4 : (hoT H).length ≤ 4000) {ll : Nat} {fr kn : Int32} (hR : hcR M z H ll fr kn) {v : Nat} (hv : v < (hoN H).length) {N : nd_N} (hN : ndL (hoN H) v = N) {h_ : Int32} (hup : N.2.1 = true) (hI : ksI N.1) (hh : h_ < 0 ∨ ¬ h_ ≤ nI (eH (enB (ksB N.1)) (ksT N.1))) : hz_Mt κ xX11_at 2 0 0 [.ref 8, .int (nI v), .int h_] z M (hcP M z H (.int (-1)) H) := by
  refine hz_ent (lo := [(0, .ref 8), (1, .int (nI v)), (2, .int h_)]) (by decide) (Nat.le_of_ble_eq_true rfl) rfl ?_
  have hH := hR.1
  have hNs := hR.2.1
  obtain ⟨hO, hQ, hD⟩ := id hR.2.2.2.2.1
  obtain ⟨g53, h53⟩ := hR.2.2.2.2.2.1
  have hJ := hR.2.2.2.1
  obtain ⟨g56, h56, hT56⟩ := hR.2.2.2.2.2.2.2.2.2.1
  have hdf := hR.2.2.2.2.2.2.2.2.2.2
  have hck : ck_k M z := hJ.2.2.2.2.2.2.2.1
  have hcs : ck_s M := hJ.2.2.2.2.2.2.2.2.1
  have hz63 : 63 ≤ z := by omega
  have hK := hR.2.2.1 v hv
  rw [hN] at hK
  obtain ⟨hn, ⟨gd, hgd, hgD⟩, hT, hC, hP, hL⟩ := id hK
  have hn : M (63 + 34 * v) = ndO (63 + 34 * v) (nI v) (nI 1) (nI (ksN N.1)) (pvI (ksF N.1)) N.2.2.1 N.2.2.2 := by rw [hup] at hn; exact hn
  have htO := hT.1
  have htR := hT.2.1.1
  rw [List.length_map] at htR
  obtain ⟨fb, fht, ftm, fbi, t5, t6, t7, t8, tX⟩ := id hT.2.2.2.1
  have hen : (enB (ksB N.1)).length = (ksB N.1).length := enB_len _
  have hb5 := hI.2.1
  have hb113 := hI.1.top.2.1
  have hwf : wfE (enB (ksB N.1)) := hI.1.2.2.2.2.1
  have hht := hwf.ht (k := ksT N.1) (by omega)
  refine hz_aloadn (pc := 0) 0 (hz_dec kX11_at 0 rfl) rfl ?_
  refine hz_iloadn (pc := 1) 1 (hz_dec kX11_at 1 rfl) rfl ?_
  refine hz_xV (pc := 2) (a := 8) (As := [.int (nI v)]) (st := []) (hz_dec kX11_at 2 rfl) co_X11_162 im_X11_nodeOf se_X11_nodeOf rfl hH (by omega) (by omega) (c_nOf hz63 hH hnn hNs (b := v) hv) rfl (by decide) ⟨Nat.le_refl _, Nat.le_refl _⟩ (Nat.le_of_ble_eq_true rfl) rfl ?_
  refine hz_astoren (pc := 5) (i := 3) (lo2 := [(3, .ref (63 + 34 * v)), (0, .ref 8), (1, .int (nI v)), (2, .int h_)]) (hz_dec kX11_at 3 rfl) rfl (by decide) rfl ?_
  refine hz_aloadn (pc := 6) 0 (hz_dec kX11_at 4 rfl) rfl ?_
  refine hz_ifnonnull (pc := 7) (tgt := 12) (hz_dec kX11_at 5 rfl) (by decide) ?_
  refine hz_aloadn (pc := 12) 0 (hz_dec kX11_at 8 rfl) rfl ?_
  refine hz_get (pc := 13) (hz_dec kX11_at 9 rfl) fo_X11_166 hn (by omega) (by omega) rfl ?_
  refine hz_z_ne (pc := 16) (tgt := 22) (hz_dec kX11_at 10 rfl) (by decide) (by omega) (fun hq1 => ?_) (fun hq1 => ?_)
  · skip
    refine hz_iloadn (pc := 22) 3 (hz_dec kX11_at 13 rfl) rfl ?_
    refine hz_if_lt (pc := 23) (tgt := 45) (hz_dec kX11_at 14 rfl) (by decide) (fun h1 => ?_) (fun h1 => ?_)
    · skip
      refine hz_iconst (pc := 45) (v := (-1)) (hz_dec kX11_at 24 rfl) (by decide) ?_
      refine hz_goto (pc := 46) (tgt := 58) (hz_dec kX11_at 25 rfl) (by decide) ?_
      exact hz_iret (pc := 58) (hz_dec kX11_at 31 rfl) rfl (hcP.no hR _)
    · skip
      refine hz_iloadn (pc := 26) 3 (hz_dec kX11_at 15 rfl) rfl ?_
      refine hz_aloadn (pc := 27) 0 (hz_dec kX11_at 16 rfl) rfl ?_
      refine hz_get (pc := 28) (hz_dec kX11_at 17 rfl) fo_X11_104 hn (by omega) (by omega) rfl ?_
      refine hz_get (pc := 31) (hz_dec kX11_at 18 rfl) fo_X11_241 htO (by omega) (by omega) rfl ?_
      refine hz_aloadn (pc := 34) 0 (hz_dec kX11_at 19 rfl) rfl ?_
      refine hz_get (pc := 35) (hz_dec kX11_at 20 rfl) fo_X11_104 hn (by omega) (by omega) rfl ?_
      refine hz_get (pc := 38) (hz_dec kX11_at 21 rfl) fo_X11_235 htO (by omega) (by omega) rfl ?_
      refine hz_iald (pc := 41) (j := ksT N.1) (hz_dec kX11_at 22 rfl) t6 (by omega) (by omega) rfl (by omega) (by decide) ?_
      refine hz_eqi (pc := 42) (tX (ksT N.1) (by omega)).2.1 ?_
      refine hz_icmp_le (pc := 42) (tgt := 49) (hz_dec kX11_at 23 rfl) (by decide) (fun h2 => ?_) (fun h2 => ?_)
      · skip
        exact absurd h2 (hh.resolve_left h1)
      · skip
        refine hz_iconst (pc := 45) (v := (-1)) (hz_dec kX11_at 24 rfl) (by decide) ?_
        refine hz_goto (pc := 46) (tgt := 58) (hz_dec kX11_at 25 rfl) (by decide) ?_
        exact hz_iret (pc := 58) (hz_dec kX11_at 31 rfl) rfl (hcP.no hR _)
  · skip
    exact absurd hq1 (by decide)
set_option maxHeartbeats 4000000 in
set_option maxRecDepth 100000 in
theorem c_ratH {κ : hz_C} {z B : Nat} {M : hz_M} {H : ho_H} (hnn : (hoN H).length ≤ 6) (hT4 : (hoT H).length ≤ 4000) (hR : hmR M z B H) {v : Nat} (hv : v < (hoN H).length) {N : nd_N} (hN : ndL (hoN H) v = N) {h_ : Int32} (hup : N.2.1 = true) (hI : ksI N.1) (hh : h_ < 0 ∨ ¬ h_ ≤ nI (eH (enB (ksB N.1)) (ksT N.1))) : hz_Mt κ xX12_at 3 0 0 [.ref B, .int (nI v), .int h_] z M (hmP M z B (.int (-1)) H) := by
  refine hz_ent (lo := [(0, .ref B), (1, .int (nI v)), (2, .int h_)]) (by decide) (Nat.le_of_ble_eq_true rfl) rfl ?_
  obtain ⟨hk0_, hE0, ⟨m1, m2, m3⟩, hNd, a5, a6, a7, a8⟩ := id hR
  obtain ⟨⟨fs, hO, hF⟩, -, -, h8, hz⟩ := id hk0_
  obtain ⟨x1, x3, x4, x5, x6, x7, x8⟩ := id m3
  have eSt : stI (ndL (hoN H) v).2.1 = nI 0 := by rw [hN, hup]; rfl
  refine hz_aloadn (pc := 0) 0 (hz_dec kX12_at 0 rfl) rfl ?_
  refine hz_iconst (pc := 1) (v := nI 0) (hz_dec kX12_at 1 rfl) (by decide) ?_
  refine hz_puti (pc := 2) (hz_dec kX12_at 2 rfl) fo_X12_302 ft_X12_0 hO h8 (by omega) (by rw [hF.1]; decide) ?_
  have hf1 : mfr B [0, 89] [] M (va_up M B (.inr (12, (List.set fs 0 (.int (nI 0)))))) := (mfr.rf ⟨fs, hO, hF⟩).upO (k := 0) hO hF rfl rfl
  have hR1 : hmR (va_up M B (.inr (12, (List.set fs 0 (.int (nI 0)))))) z B H := hR.m0 hf1 hE0.upO ((fdB_of (va_up_self _ _ _) 89).trans ((List.getElem?_set_ne (by decide)).trans ((fdB_of hO 89).symm.trans x8)))
  generalize (va_up M B (.inr (12, (List.set fs 0 (.int (nI 0)))))) = M1 at *
  obtain ⟨hk1, hE1, ⟨n1, d1, q1⟩, hNd1, a51, a61, a71, a81⟩ := id hR1
  obtain ⟨⟨fs1, hO1, hF1⟩, -, -, -, -⟩ := id hk1
  have h0 : mdN M1 B v N := by have q := hNd1 v hv; rw [hN] at q; exact q
  have hv6 : v < 6 := by omega
  have h01 : mnS M1 B v 1 N.1 (pvI (ksF N.1)) (ksP N.1) := by have q := h0.1; rw [hup] at q; exact q
  have h02 : orX (fA M1 B) v (mkO (ksL N.1)) := by have q := h0.2.1; rw [hup] at q; exact q
  obtain ⟨p1, p2, p3, p4, ⟨p5a, p5b, p5c⟩, p6, p7, p9⟩ := id h01
  have hbp := hI.1.p hI.2.1
  obtain ⟨b1, b2, b3, b4, b5, b6, b7, b8⟩ := id hbp
  refine hz_aloadn (pc := 5) 0 (hz_dec kX12_at 3 rfl) rfl ?_
  refine hz_iloadn (pc := 6) 1 (hz_dec kX12_at 4 rfl) rfl ?_
  refine hz_xV (pc := 7) (a := B) (As := [.int (nI v)]) (st := []) (hz_dec kX12_at 5 rfl) co_X12_692 im_X12_stateOf se_X12_stateOf rfl hO1 h8 (by omega) (c_st hnn hR1 hv) rfl (by decide) ⟨Nat.le_refl _, Nat.le_refl _⟩ (Nat.le_of_ble_eq_true rfl) rfl ?_
  refine hz_eqi (pc := 10) eSt ?_
  refine hz_istoren (pc := 10) (i := 3) (lo2 := [(3, .int (nI 0)), (0, .ref B), (1, .int (nI v)), (2, .int h_)]) (hz_dec kX12_at 6 rfl) rfl (by decide) rfl ?_
  refine hz_iloadn (pc := 11) 0 (hz_dec kX12_at 7 rfl) rfl ?_
  refine hz_z_ge (pc := 12) (tgt := 17) (hz_dec kX12_at 8 rfl) (by decide) (by omega) ?_
  refine hz_aloadn (pc := 17) 1 (hz_dec kX12_at 11 rfl) rfl ?_
  refine hz_iloadn (pc := 18) 2 (hz_dec kX12_at 12 rfl) rfl ?_
  refine hz_aloadn (pc := 19) 1 (hz_dec kX12_at 13 rfl) rfl ?_
  refine hz_get (pc := 20) (v := .ref (B + 21)) (hz_dec kX12_at 14 rfl) fo_X12_74 hO1 h8 (by omega) (hF1.2 23 (by decide) (by decide)) ?_
  refine hz_iloadn (pc := 23) 2 (hz_dec kX12_at 15 rfl) rfl ?_
  refine hz_iald (pc := 24) (j := v) (hz_dec kX12_at 16 rfl) hE1.a21 (by omega) (by omega) rfl (by omega) (by decide) ?_
  refine hz_eqi (pc := 25) p5b.2.1 ?_
  refine hz_iloadn (pc := 25) 3 (hz_dec kX12_at 17 rfl) rfl ?_
  refine hz_xV (pc := 26) (a := B) (As := [.int (nI v), .int (nI (ksT N.1)), .int h_]) (st := []) (hz_dec kX12_at 18 rfl) co_X12_630 im_X12_atHeight se_X12_atHeight rfl hO1 h8 (by omega) (c_mAtN hk1.1 hE1 h8 hz hv6 (by omega) (by omega) p5a b3 hI.2.1 hh) rfl (by decide) ⟨Nat.le_refl _, Nat.le_refl _⟩ (Nat.le_of_ble_eq_true rfl) rfl ?_
  refine hz_istore (pc := 29) (i := 4) (lo2 := [(4, .int (-1)), (3, .int (nI 0)), (0, .ref B), (1, .int (nI v)), (2, .int h_)]) (hz_dec kX12_at 19 rfl) (by decide) rfl ?_
  refine hz_iload (pc := 31) 0 (hz_dec kX12_at 20 rfl) rfl ?_
  refine hz_if_ge (pc := 33) (tgt := 40) (hz_dec kX12_at 21 rfl) (by decide) (fun hq2 => ?_) (fun hq2 => ?_)
  · skip
    exact absurd hq2 (by decide)
  · skip
    refine hz_iconst (pc := 36) (v := (-1)) (hz_dec kX12_at 22 rfl) (by decide) ?_
    refine hz_goto (pc := 37) (tgt := 42) (hz_dec kX12_at 23 rfl) (by decide) ?_
    exact hz_iret (pc := 42) (hz_dec kX12_at 25 rfl) rfl ⟨rfl, rfl, hf1.S rfl, hR1⟩
set_option maxHeartbeats 4000000 in
set_option maxRecDepth 100000 in
theorem c_at {κ : hz_C} {z : Nat} {M : hz_M} {H : ho_H} (hz : 63 + 34 * (hoN H).length ≤ z) (hnn : (hoN H).length ≤ 6) (hT4 : (hoT H).length ≤ 4000) {ll : Nat} {fr kn : Int32} (hR : hcR M z H ll fr kn) {v : Nat} (hv : v < (hoN H).length) {N : nd_N} (hN : ndL (hoN H) v = N) {h_ : Nat} (hup : N.2.1 = true) (hI : ksI N.1) (hh : h_ ≤ eH (enB (ksB N.1)) (ksT N.1)) : hz_Mt κ xX11_at 2 0 0 [.ref 8, .int (nI v), .int (nI h_)] z M (hcP M z H (.int (nI (chE (enB (ksB N.1)) (ksT N.1) h_))) H) := by
  refine hz_ent (lo := [(0, .ref 8), (1, .int (nI v)), (2, .int (nI h_))]) (by decide) (Nat.le_of_ble_eq_true rfl) rfl ?_
  have hH := hR.1
  have hNs := hR.2.1
  obtain ⟨hO, hQ, hD⟩ := id hR.2.2.2.2.1
  obtain ⟨g53, h53⟩ := hR.2.2.2.2.2.1
  have hJ := hR.2.2.2.1
  obtain ⟨g56, h56, hT56⟩ := hR.2.2.2.2.2.2.2.2.2.1
  have hdf := hR.2.2.2.2.2.2.2.2.2.2
  have hck : ck_k M z := hJ.2.2.2.2.2.2.2.1
  have hcs : ck_s M := hJ.2.2.2.2.2.2.2.2.1
  have hz63 : 63 ≤ z := by omega
  have hK := hR.2.2.1 v hv
  rw [hN] at hK
  obtain ⟨hn, ⟨gd, hgd, hgD⟩, hT, hC, hP, hL⟩ := id hK
  have hn : M (63 + 34 * v) = ndO (63 + 34 * v) (nI v) (nI 1) (nI (ksN N.1)) (pvI (ksF N.1)) N.2.2.1 N.2.2.2 := by rw [hup] at hn; exact hn
  have htO := hT.1
  have htR := hT.2.1.1
  rw [List.length_map] at htR
  obtain ⟨fb, fht, ftm, fbi, t5, t6, t7, t8, tX⟩ := id hT.2.2.2.1
  have hen : (enB (ksB N.1)).length = (ksB N.1).length := enB_len _
  have hb5 := hI.2.1
  have hb113 := hI.1.top.2.1
  have hwf : wfE (enB (ksB N.1)) := hI.1.2.2.2.2.1
  have hht := hwf.ht (k := ksT N.1) (by omega)
  obtain ⟨fc, t11, tc⟩ := id hT.2.2.2.2.2.2.1
  refine hz_aloadn (pc := 0) 0 (hz_dec kX11_at 0 rfl) rfl ?_
  refine hz_iloadn (pc := 1) 1 (hz_dec kX11_at 1 rfl) rfl ?_
  refine hz_xV (pc := 2) (a := 8) (As := [.int (nI v)]) (st := []) (hz_dec kX11_at 2 rfl) co_X11_162 im_X11_nodeOf se_X11_nodeOf rfl hH (by omega) (by omega) (c_nOf hz63 hH hnn hNs (b := v) hv) rfl (by decide) ⟨Nat.le_refl _, Nat.le_refl _⟩ (Nat.le_of_ble_eq_true rfl) rfl ?_
  refine hz_astoren (pc := 5) (i := 3) (lo2 := [(3, .ref (63 + 34 * v)), (0, .ref 8), (1, .int (nI v)), (2, .int (nI h_))]) (hz_dec kX11_at 3 rfl) rfl (by decide) rfl ?_
  refine hz_aloadn (pc := 6) 0 (hz_dec kX11_at 4 rfl) rfl ?_
  refine hz_ifnonnull (pc := 7) (tgt := 12) (hz_dec kX11_at 5 rfl) (by decide) ?_
  refine hz_aloadn (pc := 12) 0 (hz_dec kX11_at 8 rfl) rfl ?_
  refine hz_get (pc := 13) (hz_dec kX11_at 9 rfl) fo_X11_166 hn (by omega) (by omega) rfl ?_
  refine hz_z_ne (pc := 16) (tgt := 22) (hz_dec kX11_at 10 rfl) (by decide) (by omega) (fun hq1 => ?_) (fun hq1 => ?_)
  · skip
    refine hz_iloadn (pc := 22) 3 (hz_dec kX11_at 13 rfl) rfl ?_
    refine hz_z_lt (pc := 23) (tgt := 45) (hz_dec kX11_at 14 rfl) (by decide) (by omega) ?_
    refine hz_iloadn (pc := 26) 3 (hz_dec kX11_at 15 rfl) rfl ?_
    refine hz_aloadn (pc := 27) 0 (hz_dec kX11_at 16 rfl) rfl ?_
    refine hz_get (pc := 28) (hz_dec kX11_at 17 rfl) fo_X11_104 hn (by omega) (by omega) rfl ?_
    refine hz_get (pc := 31) (hz_dec kX11_at 18 rfl) fo_X11_241 htO (by omega) (by omega) rfl ?_
    refine hz_aloadn (pc := 34) 0 (hz_dec kX11_at 19 rfl) rfl ?_
    refine hz_get (pc := 35) (hz_dec kX11_at 20 rfl) fo_X11_104 hn (by omega) (by omega) rfl ?_
    refine hz_get (pc := 38) (hz_dec kX11_at 21 rfl) fo_X11_235 htO (by omega) (by omega) rfl ?_
    refine hz_iald (pc := 41) (j := ksT N.1) (hz_dec kX11_at 22 rfl) t6 (by omega) (by omega) rfl (by omega) (by decide) ?_
    refine hz_eqi (pc := 42) (tX (ksT N.1) (by omega)).2.1 ?_
    refine hz_n_le (pc := 42) (tgt := 49) (hz_dec kX11_at 23 rfl) (by decide) (by omega) (by omega) (fun h2 => ?_) (fun h2 => ?_)
    · skip
      refine hz_aloadn (pc := 49) 0 (hz_dec kX11_at 26 rfl) rfl ?_
      refine hz_get (pc := 50) (hz_dec kX11_at 27 rfl) fo_X11_104 hn (by omega) (by omega) rfl ?_
      refine hz_get (pc := 53) (hz_dec kX11_at 28 rfl) fo_X11_407 htO (by omega) (by omega) rfl ?_
      refine hz_iloadn (pc := 56) 3 (hz_dec kX11_at 29 rfl) rfl ?_
      refine hz_iald (pc := 57) (j := h_) (hz_dec kX11_at 30 rfl) t11 (by omega) (by omega) rfl (by omega) (by decide) ?_
      refine hz_eqi (pc := 58) (tc h_ hh) ?_
      exact hz_iret (pc := 58) (hz_dec kX11_at 31 rfl) rfl (hcP.no hR _)
    · skip
      exact absurd hh (by omega)
  · skip
    exact absurd hq1 (by decide)
set_option maxHeartbeats 4000000 in
set_option maxRecDepth 100000 in
theorem c_rat {κ : hz_C} {z B : Nat} {M : hz_M} {H : ho_H} (hnn : (hoN H).length ≤ 6) (hT4 : (hoT H).length ≤ 4000) (hR : hmR M z B H) {v : Nat} (hv : v < (hoN H).length) {N : nd_N} (hN : ndL (hoN H) v = N) {h_ : Nat} (hup : N.2.1 = true) (hI : ksI N.1) (hh : h_ ≤ eH (enB (ksB N.1)) (ksT N.1)) : hz_Mt κ xX12_at 3 0 0 [.ref B, .int (nI v), .int (nI h_)] z M (hmP M z B (.int (nI (chE (enB (ksB N.1)) (ksT N.1) h_))) H) := by
  refine hz_ent (lo := [(0, .ref B), (1, .int (nI v)), (2, .int (nI h_))]) (by decide) (Nat.le_of_ble_eq_true rfl) rfl ?_
  obtain ⟨hk0_, hE0, ⟨m1, m2, m3⟩, hNd, a5, a6, a7, a8⟩ := id hR
  obtain ⟨⟨fs, hO, hF⟩, -, -, h8, hz⟩ := id hk0_
  obtain ⟨x1, x3, x4, x5, x6, x7, x8⟩ := id m3
  have eSt : stI (ndL (hoN H) v).2.1 = nI 0 := by rw [hN, hup]; rfl
  refine hz_aloadn (pc := 0) 0 (hz_dec kX12_at 0 rfl) rfl ?_
  refine hz_iconst (pc := 1) (v := nI 0) (hz_dec kX12_at 1 rfl) (by decide) ?_
  refine hz_puti (pc := 2) (hz_dec kX12_at 2 rfl) fo_X12_302 ft_X12_0 hO h8 (by omega) (by rw [hF.1]; decide) ?_
  have hf1 : mfr B [0, 89] [] M (va_up M B (.inr (12, (List.set fs 0 (.int (nI 0)))))) := (mfr.rf ⟨fs, hO, hF⟩).upO (k := 0) hO hF rfl rfl
  have hR1 : hmR (va_up M B (.inr (12, (List.set fs 0 (.int (nI 0)))))) z B H := hR.m0 hf1 hE0.upO ((fdB_of (va_up_self _ _ _) 89).trans ((List.getElem?_set_ne (by decide)).trans ((fdB_of hO 89).symm.trans x8)))
  generalize (va_up M B (.inr (12, (List.set fs 0 (.int (nI 0)))))) = M1 at *
  obtain ⟨hk1, hE1, ⟨n1, d1, q1⟩, hNd1, a51, a61, a71, a81⟩ := id hR1
  obtain ⟨⟨fs1, hO1, hF1⟩, -, -, -, -⟩ := id hk1
  have h0 : mdN M1 B v N := by have q := hNd1 v hv; rw [hN] at q; exact q
  have hv6 : v < 6 := by omega
  have h01 : mnS M1 B v 1 N.1 (pvI (ksF N.1)) (ksP N.1) := by have q := h0.1; rw [hup] at q; exact q
  have h02 : orX (fA M1 B) v (mkO (ksL N.1)) := by have q := h0.2.1; rw [hup] at q; exact q
  obtain ⟨p1, p2, p3, p4, ⟨p5a, p5b, p5c⟩, p6, p7, p9⟩ := id h01
  have hbp := hI.1.p hI.2.1
  obtain ⟨b1, b2, b3, b4, b5, b6, b7, b8⟩ := id hbp
  refine hz_aloadn (pc := 5) 0 (hz_dec kX12_at 3 rfl) rfl ?_
  refine hz_iloadn (pc := 6) 1 (hz_dec kX12_at 4 rfl) rfl ?_
  refine hz_xV (pc := 7) (a := B) (As := [.int (nI v)]) (st := []) (hz_dec kX12_at 5 rfl) co_X12_692 im_X12_stateOf se_X12_stateOf rfl hO1 h8 (by omega) (c_st hnn hR1 hv) rfl (by decide) ⟨Nat.le_refl _, Nat.le_refl _⟩ (Nat.le_of_ble_eq_true rfl) rfl ?_
  refine hz_eqi (pc := 10) eSt ?_
  refine hz_istoren (pc := 10) (i := 3) (lo2 := [(3, .int (nI 0)), (0, .ref B), (1, .int (nI v)), (2, .int (nI h_))]) (hz_dec kX12_at 6 rfl) rfl (by decide) rfl ?_
  refine hz_iloadn (pc := 11) 0 (hz_dec kX12_at 7 rfl) rfl ?_
  have hch := (chE_h b3 (tip := ksT N.1) (x := h_) (by omega) hh).1
  refine hz_z_ge (pc := 12) (tgt := 17) (hz_dec kX12_at 8 rfl) (by decide) (by omega) ?_
  refine hz_aloadn (pc := 17) 1 (hz_dec kX12_at 11 rfl) rfl ?_
  refine hz_iloadn (pc := 18) 2 (hz_dec kX12_at 12 rfl) rfl ?_
  refine hz_aloadn (pc := 19) 1 (hz_dec kX12_at 13 rfl) rfl ?_
  refine hz_get (pc := 20) (v := .ref (B + 21)) (hz_dec kX12_at 14 rfl) fo_X12_74 hO1 h8 (by omega) (hF1.2 23 (by decide) (by decide)) ?_
  refine hz_iloadn (pc := 23) 2 (hz_dec kX12_at 15 rfl) rfl ?_
  refine hz_iald (pc := 24) (j := v) (hz_dec kX12_at 16 rfl) hE1.a21 (by omega) (by omega) rfl (by omega) (by decide) ?_
  refine hz_eqi (pc := 25) p5b.2.1 ?_
  refine hz_iloadn (pc := 25) 3 (hz_dec kX12_at 17 rfl) rfl ?_
  refine hz_xV (pc := 26) (a := B) (As := [.int (nI v), .int (nI (ksT N.1)), .int (nI h_)]) (st := []) (hz_dec kX12_at 18 rfl) co_X12_630 im_X12_atHeight se_X12_atHeight rfl hO1 h8 (by omega) (c_mAt hk1.1 hE1 h8 hz hv6 (by omega) (by omega) p5a b3 hI.2.1 hh) rfl (by decide) ⟨Nat.le_refl _, Nat.le_refl _⟩ (Nat.le_of_ble_eq_true rfl) rfl ?_
  refine hz_istore (pc := 29) (i := 4) (lo2 := [(4, .int (nI ((chE (enB (ksB N.1)) (ksT N.1) h_)))), (3, .int (nI 0)), (0, .ref B), (1, .int (nI v)), (2, .int (nI h_))]) (hz_dec kX12_at 19 rfl) (by decide) rfl ?_
  refine hz_iload (pc := 31) 0 (hz_dec kX12_at 20 rfl) rfl ?_
  refine hz_z_ge (pc := 33) (tgt := 40) (hz_dec kX12_at 21 rfl) (by decide) (by omega) ?_
  refine hz_iload (pc := 40) 0 (hz_dec kX12_at 24 rfl) rfl ?_
  exact hz_iret (pc := 42) (hz_dec kX12_at 25 rfl) rfl ⟨rfl, rfl, hf1.S rfl, hR1⟩
set_option maxHeartbeats 4000000 in
set_option maxRecDepth 100000 in
theorem c_dueN {κ : hz_C} {z : Nat} {M : hz_M} {H : ho_H} (hz : 63 + 34 * (hoN H).length ≤ z) (hnn : (hoN H).length ≤ 6) (hT4 : (hoT H).length ≤ 4000) {ll : Nat} {fr kn : Int32} (hR : hcR M z H ll fr kn) {v : Int32} {wh : Int32} (hv : v < 0 ∨ ¬ v < nI (hoN H).length) : hz_Mt κ xX11_due 5 0 0 [.ref 8, .int v, .int wh] z M (hcP M z H (.int (-1)) H) := by
  refine hz_ent (lo := [(0, .ref 8), (1, .int v), (2, .int wh)]) (by decide) (Nat.le_of_ble_eq_true rfl) rfl ?_
  have hH := hR.1
  have hNs := hR.2.1
  obtain ⟨hO, hQ, hD⟩ := id hR.2.2.2.2.1
  obtain ⟨g53, h53⟩ := hR.2.2.2.2.2.1
  have hJ := hR.2.2.2.1
  obtain ⟨g56, h56, hT56⟩ := hR.2.2.2.2.2.2.2.2.2.1
  have hdf := hR.2.2.2.2.2.2.2.2.2.2
  have hck : ck_k M z := hJ.2.2.2.2.2.2.2.1
  have hcs : ck_s M := hJ.2.2.2.2.2.2.2.2.1
  have hz63 : 63 ≤ z := by omega
  refine hz_aloadn (pc := 0) 0 (hz_dec kX11_due 0 rfl) rfl ?_
  refine hz_iloadn (pc := 1) 1 (hz_dec kX11_due 1 rfl) rfl ?_
  refine hz_xV (pc := 2) (a := 8) (As := [.int v]) (st := []) (hz_dec kX11_due 2 rfl) co_X11_162 im_X11_nodeOf se_X11_nodeOf rfl hH (by omega) (by omega) (c_nOfN hz63 hH hnn hNs hv) rfl (by decide) ⟨Nat.le_refl _, Nat.le_refl _⟩ (Nat.le_of_ble_eq_true rfl) rfl ?_
  refine hz_astorenN (pc := 5) (i := 3) (lo2 := [(3, .null), (0, .ref 8), (1, .int v), (2, .int wh)]) (hz_dec kX11_due 3 rfl) rfl (by decide) rfl ?_
  refine hz_aloadnN (pc := 6) 0 (hz_dec kX11_due 4 rfl) rfl ?_
  refine hz_ifnullN (pc := 7) (tgt := 19) (hz_dec kX11_due 5 rfl) (by decide) ?_
  refine hz_iconst (pc := 19) (v := (-1)) (hz_dec kX11_due 11 rfl) (by decide) ?_
  exact hz_iret (pc := 20) (hz_dec kX11_due 12 rfl) rfl (hcP.no hR _)
set_option maxHeartbeats 4000000 in
set_option maxRecDepth 100000 in
theorem c_rdueN {κ : hz_C} {z B : Nat} {M : hz_M} {H : ho_H} (hnn : (hoN H).length ≤ 6) (hT4 : (hoT H).length ≤ 4000) (hR : hmR M z B H) {v : Int32} {wh : Int32} (hv : v < 0 ∨ ¬ v < nI (hoN H).length) : hz_Mt κ xX12_due 5 0 0 [.ref B, .int v, .int wh] z M (hmP M z B (.int (-1)) H) := by
  refine hz_ent (lo := [(0, .ref B), (1, .int v), (2, .int wh)]) (by decide) (Nat.le_of_ble_eq_true rfl) rfl ?_
  obtain ⟨hk0_, hE0, ⟨m1, m2, m3⟩, hNd, a5, a6, a7, a8⟩ := id hR
  obtain ⟨⟨fs, hO, hF⟩, -, -, h8, hz⟩ := id hk0_
  obtain ⟨x1, x3, x4, x5, x6, x7, x8⟩ := id m3
  refine hz_aloadn (pc := 0) 0 (hz_dec kX12_due 0 rfl) rfl ?_
  refine hz_iconst (pc := 1) (v := nI 0) (hz_dec kX12_due 1 rfl) (by decide) ?_
  refine hz_puti (pc := 2) (hz_dec kX12_due 2 rfl) fo_X12_302 ft_X12_0 hO h8 (by omega) (by rw [hF.1]; decide) ?_
  have hf1 : mfr B [0, 89] [] M (va_up M B (.inr (12, (List.set fs 0 (.int (nI 0)))))) := (mfr.rf ⟨fs, hO, hF⟩).upO (k := 0) hO hF rfl rfl
  have hR1 : hmR (va_up M B (.inr (12, (List.set fs 0 (.int (nI 0)))))) z B H := hR.m0 hf1 hE0.upO ((fdB_of (va_up_self _ _ _) 89).trans ((List.getElem?_set_ne (by decide)).trans ((fdB_of hO 89).symm.trans x8)))
  generalize (va_up M B (.inr (12, (List.set fs 0 (.int (nI 0)))))) = M1 at *
  obtain ⟨hk1, hE1, ⟨n1, d1, q1⟩, hNd1, a51, a61, a71, a81⟩ := id hR1
  obtain ⟨⟨fs1, hO1, hF1⟩, -, -, -, -⟩ := id hk1
  refine hz_aloadn (pc := 5) 0 (hz_dec kX12_due 3 rfl) rfl ?_
  refine hz_iloadn (pc := 6) 1 (hz_dec kX12_due 4 rfl) rfl ?_
  refine hz_xV (pc := 7) (a := B) (As := [.int v]) (st := []) (hz_dec kX12_due 5 rfl) co_X12_692 im_X12_stateOf se_X12_stateOf rfl hO1 h8 (by omega) (c_stN hnn hR1 hv) rfl (by decide) ⟨Nat.le_refl _, Nat.le_refl _⟩ (Nat.le_of_ble_eq_true rfl) rfl ?_
  refine hz_istoren (pc := 10) (i := 3) (lo2 := [(3, .int (-1)), (0, .ref B), (1, .int v), (2, .int wh)]) (hz_dec kX12_due 6 rfl) rfl (by decide) rfl ?_
  refine hz_iloadn (pc := 11) 0 (hz_dec kX12_due 7 rfl) rfl ?_
  refine hz_iconst (pc := 12) (v := (-1)) (hz_dec kX12_due 8 rfl) (by decide) ?_
  refine hz_icmp_eq (pc := 13) (tgt := 25) (hz_dec kX12_due 9 rfl) (by decide) (fun hq1 => ?_) (fun hq1 => ?_)
  · skip
    refine hz_iconst (pc := 25) (v := (-1)) (hz_dec kX12_due 15 rfl) (by decide) ?_
    exact hz_iret (pc := 26) (hz_dec kX12_due 16 rfl) rfl ⟨rfl, rfl, hf1.S rfl, hR1⟩
  · skip
    exact absurd hq1 (by decide)
set_option maxHeartbeats 4000000 in
set_option maxRecDepth 100000 in
theorem c_dueW {κ : hz_C} {z : Nat} {M : hz_M} {H : ho_H} (hz : 63 + 34 * (hoN H).length ≤ z) (hnn : (hoN H).length ≤ 6) (hT4 : (hoT H).length ≤ 4000) {ll : Nat} {fr kn : Int32} (hR : hcR M z H ll fr kn) {v : Nat} (hv : v < (hoN H).length) {N : nd_N} (hN : ndL (hoN H) v = N) {wh : Int32} (hw : wh < 0 ∨ ¬ wh ≤ nI 2) : hz_Mt κ xX11_due 5 0 0 [.ref 8, .int (nI v), .int wh] z M (hcP M z H (.int (-1)) H) := by
  refine hz_ent (lo := [(0, .ref 8), (1, .int (nI v)), (2, .int wh)]) (by decide) (Nat.le_of_ble_eq_true rfl) rfl ?_
  have hH := hR.1
  have hNs := hR.2.1
  obtain ⟨hO, hQ, hD⟩ := id hR.2.2.2.2.1
  obtain ⟨g53, h53⟩ := hR.2.2.2.2.2.1
  have hJ := hR.2.2.2.1
  obtain ⟨g56, h56, hT56⟩ := hR.2.2.2.2.2.2.2.2.2.1
  have hdf := hR.2.2.2.2.2.2.2.2.2.2
  have hck : ck_k M z := hJ.2.2.2.2.2.2.2.1
  have hcs : ck_s M := hJ.2.2.2.2.2.2.2.2.1
  have hz63 : 63 ≤ z := by omega
  have hK := hR.2.2.1 v hv
  rw [hN] at hK
  obtain ⟨hn, ⟨gd, hgd, hgD⟩, hT, hC, hP, hL⟩ := id hK
  refine hz_aloadn (pc := 0) 0 (hz_dec kX11_due 0 rfl) rfl ?_
  refine hz_iloadn (pc := 1) 1 (hz_dec kX11_due 1 rfl) rfl ?_
  refine hz_xV (pc := 2) (a := 8) (As := [.int (nI v)]) (st := []) (hz_dec kX11_due 2 rfl) co_X11_162 im_X11_nodeOf se_X11_nodeOf rfl hH (by omega) (by omega) (c_nOf hz63 hH hnn hNs (b := v) hv) rfl (by decide) ⟨Nat.le_refl _, Nat.le_refl _⟩ (Nat.le_of_ble_eq_true rfl) rfl ?_
  refine hz_astoren (pc := 5) (i := 3) (lo2 := [(3, .ref (63 + 34 * v)), (0, .ref 8), (1, .int (nI v)), (2, .int wh)]) (hz_dec kX11_due 3 rfl) rfl (by decide) rfl ?_
  refine hz_aloadn (pc := 6) 0 (hz_dec kX11_due 4 rfl) rfl ?_
  refine hz_ifnull (pc := 7) (hz_dec kX11_due 5 rfl) ?_
  refine hz_iloadn (pc := 10) 3 (hz_dec kX11_due 6 rfl) rfl ?_
  refine hz_if_lt (pc := 11) (tgt := 19) (hz_dec kX11_due 7 rfl) (by decide) (fun h1 => ?_) (fun h1 => ?_)
  · skip
    refine hz_iconst (pc := 19) (v := (-1)) (hz_dec kX11_due 11 rfl) (by decide) ?_
    exact hz_iret (pc := 20) (hz_dec kX11_due 12 rfl) rfl (hcP.no hR _)
  · skip
    refine hz_iloadn (pc := 14) 3 (hz_dec kX11_due 8 rfl) rfl ?_
    refine hz_iconst (pc := 15) (v := nI 2) (hz_dec kX11_due 9 rfl) (by decide) ?_
    refine hz_icmp_le (pc := 16) (tgt := 21) (hz_dec kX11_due 10 rfl) (by decide) (fun h2 => ?_) (fun h2 => ?_)
    · skip
      exact absurd h2 (hw.resolve_left h1)
    · skip
      refine hz_iconst (pc := 19) (v := (-1)) (hz_dec kX11_due 11 rfl) (by decide) ?_
      exact hz_iret (pc := 20) (hz_dec kX11_due 12 rfl) rfl (hcP.no hR _)
set_option maxHeartbeats 4000000 in
set_option maxRecDepth 100000 in
theorem c_rdueW {κ : hz_C} {z B : Nat} {M : hz_M} {H : ho_H} (hnn : (hoN H).length ≤ 6) (hT4 : (hoT H).length ≤ 4000) (hR : hmR M z B H) {v : Nat} (hv : v < (hoN H).length) {N : nd_N} (hN : ndL (hoN H) v = N) {wh : Int32} (hw : wh < 0 ∨ ¬ wh ≤ nI 2) : hz_Mt κ xX12_due 5 0 0 [.ref B, .int (nI v), .int wh] z M (hmP M z B (.int (-1)) H) := by
  refine hz_ent (lo := [(0, .ref B), (1, .int (nI v)), (2, .int wh)]) (by decide) (Nat.le_of_ble_eq_true rfl) rfl ?_
  obtain ⟨hk0_, hE0, ⟨m1, m2, m3⟩, hNd, a5, a6, a7, a8⟩ := id hR
  obtain ⟨⟨fs, hO, hF⟩, -, -, h8, hz⟩ := id hk0_
  obtain ⟨x1, x3, x4, x5, x6, x7, x8⟩ := id m3
  refine hz_aloadn (pc := 0) 0 (hz_dec kX12_due 0 rfl) rfl ?_
  refine hz_iconst (pc := 1) (v := nI 0) (hz_dec kX12_due 1 rfl) (by decide) ?_
  refine hz_puti (pc := 2) (hz_dec kX12_due 2 rfl) fo_X12_302 ft_X12_0 hO h8 (by omega) (by rw [hF.1]; decide) ?_
  have hf1 : mfr B [0, 89] [] M (va_up M B (.inr (12, (List.set fs 0 (.int (nI 0)))))) := (mfr.rf ⟨fs, hO, hF⟩).upO (k := 0) hO hF rfl rfl
  have hR1 : hmR (va_up M B (.inr (12, (List.set fs 0 (.int (nI 0)))))) z B H := hR.m0 hf1 hE0.upO ((fdB_of (va_up_self _ _ _) 89).trans ((List.getElem?_set_ne (by decide)).trans ((fdB_of hO 89).symm.trans x8)))
  generalize (va_up M B (.inr (12, (List.set fs 0 (.int (nI 0)))))) = M1 at *
  obtain ⟨hk1, hE1, ⟨n1, d1, q1⟩, hNd1, a51, a61, a71, a81⟩ := id hR1
  obtain ⟨⟨fs1, hO1, hF1⟩, -, -, -, -⟩ := id hk1
  refine hz_aloadn (pc := 5) 0 (hz_dec kX12_due 3 rfl) rfl ?_
  refine hz_iloadn (pc := 6) 1 (hz_dec kX12_due 4 rfl) rfl ?_
  refine hz_xV (pc := 7) (a := B) (As := [.int (nI v)]) (st := []) (hz_dec kX12_due 5 rfl) co_X12_692 im_X12_stateOf se_X12_stateOf rfl hO1 h8 (by omega) (c_st hnn hR1 hv) rfl (by decide) ⟨Nat.le_refl _, Nat.le_refl _⟩ (Nat.le_of_ble_eq_true rfl) rfl ?_
  refine hz_istoren (pc := 10) (i := 3) (lo2 := [(3, .int (stI (ndL (hoN H) v).2.1)), (0, .ref B), (1, .int (nI v)), (2, .int wh)]) (hz_dec kX12_due 6 rfl) rfl (by decide) rfl ?_
  refine hz_iloadn (pc := 11) 0 (hz_dec kX12_due 7 rfl) rfl ?_
  refine hz_iconst (pc := 12) (v := (-1)) (hz_dec kX12_due 8 rfl) (by decide) ?_
  refine hz_icmp_eq (pc := 13) (tgt := 25) (hz_dec kX12_due 9 rfl) (by decide) (fun h0 => ?_) (fun h0 => ?_)
  · skip
    exact absurd h0 (stI_b _)
  · skip
    refine hz_iloadn (pc := 16) 3 (hz_dec kX12_due 10 rfl) rfl ?_
    refine hz_if_lt (pc := 17) (tgt := 25) (hz_dec kX12_due 11 rfl) (by decide) (fun h1 => ?_) (fun h1 => ?_)
    · skip
      refine hz_iconst (pc := 25) (v := (-1)) (hz_dec kX12_due 15 rfl) (by decide) ?_
      exact hz_iret (pc := 26) (hz_dec kX12_due 16 rfl) rfl ⟨rfl, rfl, hf1.S rfl, hR1⟩
    · skip
      refine hz_iloadn (pc := 20) 3 (hz_dec kX12_due 12 rfl) rfl ?_
      refine hz_iconst (pc := 21) (v := nI 2) (hz_dec kX12_due 13 rfl) (by decide) ?_
      refine hz_icmp_le (pc := 22) (tgt := 27) (hz_dec kX12_due 14 rfl) (by decide) (fun h2 => ?_) (fun h2 => ?_)
      · skip
        exact absurd h2 (hw.resolve_left h1)
      · skip
        refine hz_iconst (pc := 25) (v := (-1)) (hz_dec kX12_due 15 rfl) (by decide) ?_
        exact hz_iret (pc := 26) (hz_dec kX12_due 16 rfl) rfl ⟨rfl, rfl, hf1.S rfl, hR1⟩
set_option maxHeartbeats 4000000 in
set_option maxRecDepth 100000 in
theorem c_dueD {κ : hz_C} {z : Nat} {M : hz_M} {H : ho_H} (hz : 63 + 34 * (hoN H).length ≤ z) (hnn : (hoN H).length ≤ 6) (hT4 : (hoT H).length ≤ 4000) {ll : Nat} {fr kn : Int32} (hR : hcR M z H ll fr kn) {v : Nat} (hv : v < (hoN H).length) {N : nd_N} (hN : ndL (hoN H) v = N) {wh : Nat} (hw : wh ≤ 2) (hup : N.2.1 = false) : hz_Mt κ xX11_due 5 0 0 [.ref 8, .int (nI v), .int (nI wh)] z M (hcP M z H (.int (-2)) H) := by
  refine hz_ent (lo := [(0, .ref 8), (1, .int (nI v)), (2, .int (nI wh))]) (by decide) (Nat.le_of_ble_eq_true rfl) rfl ?_
  have hH := hR.1
  have hNs := hR.2.1
  obtain ⟨hO, hQ, hD⟩ := id hR.2.2.2.2.1
  obtain ⟨g53, h53⟩ := hR.2.2.2.2.2.1
  have hJ := hR.2.2.2.1
  obtain ⟨g56, h56, hT56⟩ := hR.2.2.2.2.2.2.2.2.2.1
  have hdf := hR.2.2.2.2.2.2.2.2.2.2
  have hck : ck_k M z := hJ.2.2.2.2.2.2.2.1
  have hcs : ck_s M := hJ.2.2.2.2.2.2.2.2.1
  have hz63 : 63 ≤ z := by omega
  have hK := hR.2.2.1 v hv
  rw [hN] at hK
  obtain ⟨hn, ⟨gd, hgd, hgD⟩, hT, hC, hP, hL⟩ := id hK
  have hn : M (63 + 34 * v) = ndO (63 + 34 * v) (nI v) (nI 0) (nI (ksN N.1)) (pvI (ksF N.1)) N.2.2.1 N.2.2.2 := by rw [hup] at hn; exact hn
  refine hz_aloadn (pc := 0) 0 (hz_dec kX11_due 0 rfl) rfl ?_
  refine hz_iloadn (pc := 1) 1 (hz_dec kX11_due 1 rfl) rfl ?_
  refine hz_xV (pc := 2) (a := 8) (As := [.int (nI v)]) (st := []) (hz_dec kX11_due 2 rfl) co_X11_162 im_X11_nodeOf se_X11_nodeOf rfl hH (by omega) (by omega) (c_nOf hz63 hH hnn hNs (b := v) hv) rfl (by decide) ⟨Nat.le_refl _, Nat.le_refl _⟩ (Nat.le_of_ble_eq_true rfl) rfl ?_
  refine hz_astoren (pc := 5) (i := 3) (lo2 := [(3, .ref (63 + 34 * v)), (0, .ref 8), (1, .int (nI v)), (2, .int (nI wh))]) (hz_dec kX11_due 3 rfl) rfl (by decide) rfl ?_
  refine hz_aloadn (pc := 6) 0 (hz_dec kX11_due 4 rfl) rfl ?_
  refine hz_ifnull (pc := 7) (hz_dec kX11_due 5 rfl) ?_
  refine hz_iloadn (pc := 10) 3 (hz_dec kX11_due 6 rfl) rfl ?_
  refine hz_z_lt (pc := 11) (tgt := 19) (hz_dec kX11_due 7 rfl) (by decide) (by omega) ?_
  refine hz_iloadn (pc := 14) 3 (hz_dec kX11_due 8 rfl) rfl ?_
  refine hz_iconst (pc := 15) (v := nI 2) (hz_dec kX11_due 9 rfl) (by decide) ?_
  refine hz_n_le (pc := 16) (tgt := 21) (hz_dec kX11_due 10 rfl) (by decide) (by omega) (by omega) (fun h2 => ?_) (fun h2 => ?_)
  · skip
    refine hz_aloadn (pc := 21) 0 (hz_dec kX11_due 13 rfl) rfl ?_
    refine hz_get (pc := 22) (hz_dec kX11_due 14 rfl) fo_X11_166 hn (by omega) (by omega) rfl ?_
    refine hz_z_ne (pc := 25) (tgt := 31) (hz_dec kX11_due 15 rfl) (by decide) (by omega) (fun hq1 => ?_) (fun hq1 => ?_)
    · skip
      exact absurd hq1 (by decide)
    · skip
      refine hz_bipush (pc := 28) (v := (-2)) (hz_dec kX11_due 16 rfl) (by decide) ?_
      exact hz_iret (pc := 30) (hz_dec kX11_due 17 rfl) rfl (hcP.no hR _)
  · skip
    exact absurd hw (by omega)
set_option maxHeartbeats 4000000 in
set_option maxRecDepth 100000 in
theorem c_rdueD {κ : hz_C} {z B : Nat} {M : hz_M} {H : ho_H} (hnn : (hoN H).length ≤ 6) (hT4 : (hoT H).length ≤ 4000) (hR : hmR M z B H) {v : Nat} (hv : v < (hoN H).length) {N : nd_N} (hN : ndL (hoN H) v = N) {wh : Nat} (hw : wh ≤ 2) (hup : N.2.1 = false) : hz_Mt κ xX12_due 5 0 0 [.ref B, .int (nI v), .int (nI wh)] z M (hmP M z B (.int (-2)) H) := by
  refine hz_ent (lo := [(0, .ref B), (1, .int (nI v)), (2, .int (nI wh))]) (by decide) (Nat.le_of_ble_eq_true rfl) rfl ?_
  obtain ⟨hk0_, hE0, ⟨m1, m2, m3⟩, hNd, a5, a6, a7, a8⟩ := id hR
  obtain ⟨⟨fs, hO, hF⟩, -, -, h8, hz⟩ := id hk0_
  obtain ⟨x1, x3, x4, x5, x6, x7, x8⟩ := id m3
  have eSt : stI (ndL (hoN H) v).2.1 = (-2) := by rw [hN, hup]; rfl
  refine hz_aloadn (pc := 0) 0 (hz_dec kX12_due 0 rfl) rfl ?_
  refine hz_iconst (pc := 1) (v := nI 0) (hz_dec kX12_due 1 rfl) (by decide) ?_
  refine hz_puti (pc := 2) (hz_dec kX12_due 2 rfl) fo_X12_302 ft_X12_0 hO h8 (by omega) (by rw [hF.1]; decide) ?_
  have hf1 : mfr B [0, 89] [] M (va_up M B (.inr (12, (List.set fs 0 (.int (nI 0)))))) := (mfr.rf ⟨fs, hO, hF⟩).upO (k := 0) hO hF rfl rfl
  have hR1 : hmR (va_up M B (.inr (12, (List.set fs 0 (.int (nI 0)))))) z B H := hR.m0 hf1 hE0.upO ((fdB_of (va_up_self _ _ _) 89).trans ((List.getElem?_set_ne (by decide)).trans ((fdB_of hO 89).symm.trans x8)))
  generalize (va_up M B (.inr (12, (List.set fs 0 (.int (nI 0)))))) = M1 at *
  obtain ⟨hk1, hE1, ⟨n1, d1, q1⟩, hNd1, a51, a61, a71, a81⟩ := id hR1
  obtain ⟨⟨fs1, hO1, hF1⟩, -, -, -, -⟩ := id hk1
  refine hz_aloadn (pc := 5) 0 (hz_dec kX12_due 3 rfl) rfl ?_
  refine hz_iloadn (pc := 6) 1 (hz_dec kX12_due 4 rfl) rfl ?_
  refine hz_xV (pc := 7) (a := B) (As := [.int (nI v)]) (st := []) (hz_dec kX12_due 5 rfl) co_X12_692 im_X12_stateOf se_X12_stateOf rfl hO1 h8 (by omega) (c_st hnn hR1 hv) rfl (by decide) ⟨Nat.le_refl _, Nat.le_refl _⟩ (Nat.le_of_ble_eq_true rfl) rfl ?_
  refine hz_eqi (pc := 10) eSt ?_
  refine hz_istoren (pc := 10) (i := 3) (lo2 := [(3, .int (-2)), (0, .ref B), (1, .int (nI v)), (2, .int (nI wh))]) (hz_dec kX12_due 6 rfl) rfl (by decide) rfl ?_
  refine hz_iloadn (pc := 11) 0 (hz_dec kX12_due 7 rfl) rfl ?_
  refine hz_iconst (pc := 12) (v := (-1)) (hz_dec kX12_due 8 rfl) (by decide) ?_
  refine hz_icmp_eq (pc := 13) (tgt := 25) (hz_dec kX12_due 9 rfl) (by decide) (fun hq1 => ?_) (fun hq1 => ?_)
  · skip
    exact absurd hq1 (by decide)
  · skip
    refine hz_iloadn (pc := 16) 3 (hz_dec kX12_due 10 rfl) rfl ?_
    refine hz_z_lt (pc := 17) (tgt := 25) (hz_dec kX12_due 11 rfl) (by decide) (by omega) ?_
    refine hz_iloadn (pc := 20) 3 (hz_dec kX12_due 12 rfl) rfl ?_
    refine hz_iconst (pc := 21) (v := nI 2) (hz_dec kX12_due 13 rfl) (by decide) ?_
    refine hz_n_le (pc := 22) (tgt := 27) (hz_dec kX12_due 14 rfl) (by decide) (by omega) (by omega) (fun h2 => ?_) (fun h2 => ?_)
    · skip
      refine hz_iloadn (pc := 27) 0 (hz_dec kX12_due 17 rfl) rfl ?_
      refine hz_bipush (pc := 28) (v := (-2)) (hz_dec kX12_due 18 rfl) (by decide) ?_
      refine hz_icmp_ne (pc := 30) (tgt := 36) (hz_dec kX12_due 19 rfl) (by decide) (fun hq2 => ?_) (fun hq2 => ?_)
      · skip
        exact absurd hq2 (by decide)
      · skip
        refine hz_bipush (pc := 33) (v := (-2)) (hz_dec kX12_due 20 rfl) (by decide) ?_
        exact hz_iret (pc := 35) (hz_dec kX12_due 21 rfl) rfl ⟨rfl, rfl, hf1.S rfl, hR1⟩
    · skip
      exact absurd hw (by omega)
set_option maxHeartbeats 4000000 in
set_option maxRecDepth 100000 in
theorem c_due0 {κ : hz_C} {z : Nat} {M : hz_M} {H : ho_H} (hz : 63 + 34 * (hoN H).length ≤ z) (hnn : (hoN H).length ≤ 6) (hT4 : (hoT H).length ≤ 4000) {ll : Nat} {fr kn : Int32} (hR : hcR M z H ll fr kn) {v : Nat} (hv : v < (hoN H).length) {N : nd_N} (hN : ndL (hoN H) v = N) (hup : N.2.1 = true) (hI : ksI N.1) : hz_Mt κ xX11_due 5 0 0 [.ref 8, .int (nI v), .int (nI 0)] z M (hcP M z H (.int (dueE (enB (ksB N.1)) (ksT N.1))) H) := by
  refine hz_ent (lo := [(0, .ref 8), (1, .int (nI v)), (2, .int (nI 0))]) (by decide) (Nat.le_of_ble_eq_true rfl) rfl ?_
  have hH := hR.1
  have hNs := hR.2.1
  obtain ⟨hO, hQ, hD⟩ := id hR.2.2.2.2.1
  obtain ⟨g53, h53⟩ := hR.2.2.2.2.2.1
  have hJ := hR.2.2.2.1
  obtain ⟨g56, h56, hT56⟩ := hR.2.2.2.2.2.2.2.2.2.1
  have hdf := hR.2.2.2.2.2.2.2.2.2.2
  have hck : ck_k M z := hJ.2.2.2.2.2.2.2.1
  have hcs : ck_s M := hJ.2.2.2.2.2.2.2.2.1
  have hz63 : 63 ≤ z := by omega
  have hK := hR.2.2.1 v hv
  rw [hN] at hK
  obtain ⟨hn, ⟨gd, hgd, hgD⟩, hT, hC, hP, hL⟩ := id hK
  have hn : M (63 + 34 * v) = ndO (63 + 34 * v) (nI v) (nI 1) (nI (ksN N.1)) (pvI (ksF N.1)) N.2.2.1 N.2.2.2 := by rw [hup] at hn; exact hn
  have htO := hT.1
  have htR := hT.2.1.1
  rw [List.length_map] at htR
  obtain ⟨fb, fht, ftm, fbi, t5, t6, t7, t8, tX⟩ := id hT.2.2.2.1
  have hen : (enB (ksB N.1)).length = (ksB N.1).length := enB_len _
  have hb5 := hI.2.1
  have hb113 := hI.1.top.2.1
  have hwf : wfE (enB (ksB N.1)) := hI.1.2.2.2.2.1
  have hht := hwf.ht (k := ksT N.1) (by omega)
  have hcw : ck_w M := hJ.2.2.2.2.2.2.2.2.2
  refine hz_aloadn (pc := 0) 0 (hz_dec kX11_due 0 rfl) rfl ?_
  refine hz_iloadn (pc := 1) 1 (hz_dec kX11_due 1 rfl) rfl ?_
  refine hz_xV (pc := 2) (a := 8) (As := [.int (nI v)]) (st := []) (hz_dec kX11_due 2 rfl) co_X11_162 im_X11_nodeOf se_X11_nodeOf rfl hH (by omega) (by omega) (c_nOf hz63 hH hnn hNs (b := v) hv) rfl (by decide) ⟨Nat.le_refl _, Nat.le_refl _⟩ (Nat.le_of_ble_eq_true rfl) rfl ?_
  refine hz_astoren (pc := 5) (i := 3) (lo2 := [(3, .ref (63 + 34 * v)), (0, .ref 8), (1, .int (nI v)), (2, .int (nI 0))]) (hz_dec kX11_due 3 rfl) rfl (by decide) rfl ?_
  refine hz_aloadn (pc := 6) 0 (hz_dec kX11_due 4 rfl) rfl ?_
  refine hz_ifnull (pc := 7) (hz_dec kX11_due 5 rfl) ?_
  refine hz_iloadn (pc := 10) 3 (hz_dec kX11_due 6 rfl) rfl ?_
  refine hz_z_lt (pc := 11) (tgt := 19) (hz_dec kX11_due 7 rfl) (by decide) (by omega) ?_
  refine hz_iloadn (pc := 14) 3 (hz_dec kX11_due 8 rfl) rfl ?_
  refine hz_iconst (pc := 15) (v := nI 2) (hz_dec kX11_due 9 rfl) (by decide) ?_
  refine hz_n_le (pc := 16) (tgt := 21) (hz_dec kX11_due 10 rfl) (by decide) (by omega) (by omega) (fun hq2 => ?_) (fun hq2 => ?_)
  · skip
    refine hz_aloadn (pc := 21) 0 (hz_dec kX11_due 13 rfl) rfl ?_
    refine hz_get (pc := 22) (hz_dec kX11_due 14 rfl) fo_X11_166 hn (by omega) (by omega) rfl ?_
    refine hz_z_ne (pc := 25) (tgt := 31) (hz_dec kX11_due 15 rfl) (by decide) (by omega) (fun hq3 => ?_) (fun hq3 => ?_)
    · skip
      refine hz_aloadn (pc := 31) 0 (hz_dec kX11_due 18 rfl) rfl ?_
      refine hz_get (pc := 32) (hz_dec kX11_due 19 rfl) fo_X11_104 hn (by omega) (by omega) rfl ?_
      refine hz_astore (pc := 35) (i := 4) (lo2 := [(4, .ref (63 + 34 * v + 21)), (3, .ref (63 + 34 * v)), (0, .ref 8), (1, .int (nI v)), (2, .int (nI 0))]) (hz_dec kX11_due 20 rfl) (by decide) rfl ?_
      refine hz_iloadn (pc := 37) 4 (hz_dec kX11_due 21 rfl) rfl ?_
      refine hz_z_ne (pc := 38) (tgt := 52) (hz_dec kX11_due 22 rfl) (by decide) (by omega) (fun hq4 => ?_) (fun hq4 => ?_)
      · skip
        exact absurd hq4 (by decide)
      · skip
        refine hz_aload (pc := 41) 0 (hz_dec kX11_due 23 rfl) rfl ?_
        refine hz_aload (pc := 43) 0 (hz_dec kX11_due 24 rfl) rfl ?_
        refine hz_get (pc := 45) (hz_dec kX11_due 25 rfl) fo_X11_235 htO (by omega) (by omega) rfl ?_
        refine hz_callV (pc := 48) (a := 63 + 34 * v + 21) (As := [.int (nI (ksT N.1))]) (st := []) (hz_dec kX11_due 26 rfl) co_X11_247 im_X10_dueBits se_X10_dueBits rfl htO (by omega) (by omega) (c_due hT (by omega) (by omega) hcw (x := ksT N.1) (by omega)) rfl (by decide) ⟨Nat.le_refl _, Nat.le_refl _⟩ (Nat.le_of_ble_eq_true rfl) rfl (fun r9 z9 M2 hp9 => ?_)
        obtain ⟨rfl, rfl, hf2, hw2⟩ := hp9
        have hR2 : hcR M2 z H ll fr kn := hR.j (hf2.mono (fun q (h9 : outS [(9, 39)] q) => ⟨by have r := h9.1; omega, trivial⟩)) (hJ.w (fun q q1 q2 q3 => hf2.at1 (by omega)) hw2)
        exact hz_iret (pc := 51) (hz_dec kX11_due 27 rfl) rfl ⟨rfl, rfl, (hf2.mono (fun q (h9 : outS [(8, 63 + 34 * (hoN H).length)] q) => ⟨by have r := h9.1; omega, trivial⟩)), ll, fr, kn, hR2⟩
    · skip
      exact absurd hq3 (by decide)
  · skip
    exact absurd hq2 (by decide)
set_option maxHeartbeats 4000000 in
set_option maxRecDepth 100000 in
theorem c_rdue0 {κ : hz_C} {z B : Nat} {M : hz_M} {H : ho_H} (hnn : (hoN H).length ≤ 6) (hT4 : (hoT H).length ≤ 4000) (hR : hmR M z B H) {v : Nat} (hv : v < (hoN H).length) {N : nd_N} (hN : ndL (hoN H) v = N) (hup : N.2.1 = true) (hI : ksI N.1) : hz_Mt κ xX12_due 5 0 0 [.ref B, .int (nI v), .int (nI 0)] z M (hmP M z B (.int (dueE (enB (ksB N.1)) (ksT N.1))) H) := by
  refine hz_ent (lo := [(0, .ref B), (1, .int (nI v)), (2, .int (nI 0))]) (by decide) (Nat.le_of_ble_eq_true rfl) rfl ?_
  obtain ⟨hk0_, hE0, ⟨m1, m2, m3⟩, hNd, a5, a6, a7, a8⟩ := id hR
  obtain ⟨⟨fs, hO, hF⟩, -, -, h8, hz⟩ := id hk0_
  obtain ⟨x1, x3, x4, x5, x6, x7, x8⟩ := id m3
  have eSt : stI (ndL (hoN H) v).2.1 = nI 0 := by rw [hN, hup]; rfl
  refine hz_aloadn (pc := 0) 0 (hz_dec kX12_due 0 rfl) rfl ?_
  refine hz_iconst (pc := 1) (v := nI 0) (hz_dec kX12_due 1 rfl) (by decide) ?_
  refine hz_puti (pc := 2) (hz_dec kX12_due 2 rfl) fo_X12_302 ft_X12_0 hO h8 (by omega) (by rw [hF.1]; decide) ?_
  have hf1 : mfr B [0, 89] [] M (va_up M B (.inr (12, (List.set fs 0 (.int (nI 0)))))) := (mfr.rf ⟨fs, hO, hF⟩).upO (k := 0) hO hF rfl rfl
  have hR1 : hmR (va_up M B (.inr (12, (List.set fs 0 (.int (nI 0)))))) z B H := hR.m0 hf1 hE0.upO ((fdB_of (va_up_self _ _ _) 89).trans ((List.getElem?_set_ne (by decide)).trans ((fdB_of hO 89).symm.trans x8)))
  generalize (va_up M B (.inr (12, (List.set fs 0 (.int (nI 0)))))) = M1 at *
  obtain ⟨hk1, hE1, ⟨n1, d1, q1⟩, hNd1, a51, a61, a71, a81⟩ := id hR1
  obtain ⟨⟨fs1, hO1, hF1⟩, -, -, -, -⟩ := id hk1
  have h0 : mdN M1 B v N := by have q := hNd1 v hv; rw [hN] at q; exact q
  have hv6 : v < 6 := by omega
  have h01 : mnS M1 B v 1 N.1 (pvI (ksF N.1)) (ksP N.1) := by have q := h0.1; rw [hup] at q; exact q
  have h02 : orX (fA M1 B) v (mkO (ksL N.1)) := by have q := h0.2.1; rw [hup] at q; exact q
  obtain ⟨p1, p2, p3, p4, ⟨p5a, p5b, p5c⟩, p6, p7, p9⟩ := id h01
  have hbp := hI.1.p hI.2.1
  obtain ⟨b1, b2, b3, b4, b5, b6, b7, b8⟩ := id hbp
  have hb5 := hI.2.1
  have hht := b3.ht (k := ksT N.1) (by omega)
  refine hz_aloadn (pc := 5) 0 (hz_dec kX12_due 3 rfl) rfl ?_
  refine hz_iloadn (pc := 6) 1 (hz_dec kX12_due 4 rfl) rfl ?_
  refine hz_xV (pc := 7) (a := B) (As := [.int (nI v)]) (st := []) (hz_dec kX12_due 5 rfl) co_X12_692 im_X12_stateOf se_X12_stateOf rfl hO1 h8 (by omega) (c_st hnn hR1 hv) rfl (by decide) ⟨Nat.le_refl _, Nat.le_refl _⟩ (Nat.le_of_ble_eq_true rfl) rfl ?_
  refine hz_eqi (pc := 10) eSt ?_
  refine hz_istoren (pc := 10) (i := 3) (lo2 := [(3, .int (nI 0)), (0, .ref B), (1, .int (nI v)), (2, .int (nI 0))]) (hz_dec kX12_due 6 rfl) rfl (by decide) rfl ?_
  refine hz_iloadn (pc := 11) 0 (hz_dec kX12_due 7 rfl) rfl ?_
  refine hz_iconst (pc := 12) (v := (-1)) (hz_dec kX12_due 8 rfl) (by decide) ?_
  have erx : rx (ksB N.1).length (ksT N.1) = ksT N.1 := rx_lt hI.2.1
  refine hz_icmp_eq (pc := 13) (tgt := 25) (hz_dec kX12_due 9 rfl) (by decide) (fun hq1 => ?_) (fun hq1 => ?_)
  · skip
    exact absurd hq1 (by decide)
  · skip
    refine hz_iloadn (pc := 16) 3 (hz_dec kX12_due 10 rfl) rfl ?_
    refine hz_z_lt (pc := 17) (tgt := 25) (hz_dec kX12_due 11 rfl) (by decide) (by omega) ?_
    refine hz_iloadn (pc := 20) 3 (hz_dec kX12_due 12 rfl) rfl ?_
    refine hz_iconst (pc := 21) (v := nI 2) (hz_dec kX12_due 13 rfl) (by decide) ?_
    refine hz_n_le (pc := 22) (tgt := 27) (hz_dec kX12_due 14 rfl) (by decide) (by omega) (by omega) (fun hq3 => ?_) (fun hq3 => ?_)
    · skip
      refine hz_iloadn (pc := 27) 0 (hz_dec kX12_due 17 rfl) rfl ?_
      refine hz_bipush (pc := 28) (v := (-2)) (hz_dec kX12_due 18 rfl) (by decide) ?_
      refine hz_icmp_ne (pc := 30) (tgt := 36) (hz_dec kX12_due 19 rfl) (by decide) (fun hq4 => ?_) (fun hq4 => ?_)
      · skip
        refine hz_aloadn (pc := 36) 1 (hz_dec kX12_due 22 rfl) rfl ?_
        refine hz_get (pc := 37) (v := .ref (B + 21)) (hz_dec kX12_due 23 rfl) fo_X12_74 hO1 h8 (by omega) (hF1.2 23 (by decide) (by decide)) ?_
        refine hz_iloadn (pc := 40) 2 (hz_dec kX12_due 24 rfl) rfl ?_
        refine hz_iald (pc := 41) (j := v) (hz_dec kX12_due 25 rfl) hE1.a21 (by omega) (by omega) rfl (by omega) (by decide) ?_
        refine hz_eqi (pc := 42) p5b.2.1 ?_
        refine hz_istore (pc := 42) (i := 4) (lo2 := [(4, .int (nI (ksT N.1))), (3, .int (nI 0)), (0, .ref B), (1, .int (nI v)), (2, .int (nI 0))]) (hz_dec kX12_due 26 rfl) (by decide) rfl ?_
        refine hz_iloadn (pc := 44) 4 (hz_dec kX12_due 27 rfl) rfl ?_
        refine hz_z_ne (pc := 45) (tgt := 58) (hz_dec kX12_due 28 rfl) (by decide) (by omega) (fun hq5 => ?_) (fun hq5 => ?_)
        · skip
          exact absurd hq5 (by decide)
        · skip
          refine hz_aloadn (pc := 48) 2 (hz_dec kX12_due 29 rfl) rfl ?_
          refine hz_iloadn (pc := 49) 3 (hz_dec kX12_due 30 rfl) rfl ?_
          refine hz_iload (pc := 50) 0 (hz_dec kX12_due 31 rfl) rfl ?_
          have hcd := c_mdue (κ := κ) hk1.1 hE1 h8 hz hv6 (by omega) (by omega) p5a b3 (y := ksT N.1) (by omega)
          rw [erx] at hcd
          refine hz_callV (pc := 52) (a := B) (As := [.int (nI v), .int (nI (ksT N.1))]) (st := []) (hz_dec kX12_due 32 rfl) co_X12_544 im_X12_dueBehind se_X12_dueBehind rfl hO1 h8 (by omega) (hcd) rfl (by decide) ⟨Nat.le_refl _, Nat.le_refl _⟩ (Nat.le_of_ble_eq_true rfl) rfl (fun r9 z9 M2 hp9 => ?_)
          obtain ⟨rfl, rfl, hf2, ht2⟩ := hp9
          have hm2 : mfr B [] [10, 11] M1 M2 := mfr.ofl hk1.1 hf2 rfl
          have hR2 : hmR M2 z B H := hR1.sc hm2 (hE1.ht hm2 ht2 rfl) rfl rfl rfl rfl rfl rfl rfl rfl rfl rfl rfl rfl rfl rfl rfl rfl rfl rfl rfl
          refine hz_goto (pc := 55) (tgt := 89) (hz_dec kX12_due 33 rfl) (by decide) ?_
          exact hz_iret (pc := 89) (hz_dec kX12_due 51 rfl) rfl ⟨rfl, rfl, (hf1.S rfl).tr (hm2.S rfl), hR2⟩
      · skip
        exact absurd hq4 (by decide)
    · skip
      exact absurd hq3 (by decide)
set_option maxHeartbeats 4000000 in
set_option maxRecDepth 100000 in
theorem c_due1 {κ : hz_C} {z : Nat} {M : hz_M} {H : ho_H} (hz : 63 + 34 * (hoN H).length ≤ z) (hnn : (hoN H).length ≤ 6) (hT4 : (hoT H).length ≤ 4000) {ll : Nat} {fr kn : Int32} (hR : hcR M z H ll fr kn) {v : Nat} (hv : v < (hoN H).length) {N : nd_N} (hN : ndL (hoN H) v = N) (hup : N.2.1 = true) (hI : ksI N.1) : hz_Mt κ xX11_due 5 0 0 [.ref 8, .int (nI v), .int (nI 1)] z M (hcP M z H (.int (midE (enB (ksB N.1)) (ksT N.1))) H) := by
  refine hz_ent (lo := [(0, .ref 8), (1, .int (nI v)), (2, .int (nI 1))]) (by decide) (Nat.le_of_ble_eq_true rfl) rfl ?_
  have hH := hR.1
  have hNs := hR.2.1
  obtain ⟨hO, hQ, hD⟩ := id hR.2.2.2.2.1
  obtain ⟨g53, h53⟩ := hR.2.2.2.2.2.1
  have hJ := hR.2.2.2.1
  obtain ⟨g56, h56, hT56⟩ := hR.2.2.2.2.2.2.2.2.2.1
  have hdf := hR.2.2.2.2.2.2.2.2.2.2
  have hck : ck_k M z := hJ.2.2.2.2.2.2.2.1
  have hcs : ck_s M := hJ.2.2.2.2.2.2.2.2.1
  have hz63 : 63 ≤ z := by omega
  have hK := hR.2.2.1 v hv
  rw [hN] at hK
  obtain ⟨hn, ⟨gd, hgd, hgD⟩, hT, hC, hP, hL⟩ := id hK
  have hn : M (63 + 34 * v) = ndO (63 + 34 * v) (nI v) (nI 1) (nI (ksN N.1)) (pvI (ksF N.1)) N.2.2.1 N.2.2.2 := by rw [hup] at hn; exact hn
  have htO := hT.1
  have htR := hT.2.1.1
  rw [List.length_map] at htR
  obtain ⟨fb, fht, ftm, fbi, t5, t6, t7, t8, tX⟩ := id hT.2.2.2.1
  have hen : (enB (ksB N.1)).length = (ksB N.1).length := enB_len _
  have hb5 := hI.2.1
  have hb113 := hI.1.top.2.1
  have hwf : wfE (enB (ksB N.1)) := hI.1.2.2.2.2.1
  have hht := hwf.ht (k := ksT N.1) (by omega)
  have hcw : ck_w M := hJ.2.2.2.2.2.2.2.2.2
  refine hz_aloadn (pc := 0) 0 (hz_dec kX11_due 0 rfl) rfl ?_
  refine hz_iloadn (pc := 1) 1 (hz_dec kX11_due 1 rfl) rfl ?_
  refine hz_xV (pc := 2) (a := 8) (As := [.int (nI v)]) (st := []) (hz_dec kX11_due 2 rfl) co_X11_162 im_X11_nodeOf se_X11_nodeOf rfl hH (by omega) (by omega) (c_nOf hz63 hH hnn hNs (b := v) hv) rfl (by decide) ⟨Nat.le_refl _, Nat.le_refl _⟩ (Nat.le_of_ble_eq_true rfl) rfl ?_
  refine hz_astoren (pc := 5) (i := 3) (lo2 := [(3, .ref (63 + 34 * v)), (0, .ref 8), (1, .int (nI v)), (2, .int (nI 1))]) (hz_dec kX11_due 3 rfl) rfl (by decide) rfl ?_
  refine hz_aloadn (pc := 6) 0 (hz_dec kX11_due 4 rfl) rfl ?_
  refine hz_ifnull (pc := 7) (hz_dec kX11_due 5 rfl) ?_
  refine hz_iloadn (pc := 10) 3 (hz_dec kX11_due 6 rfl) rfl ?_
  refine hz_z_lt (pc := 11) (tgt := 19) (hz_dec kX11_due 7 rfl) (by decide) (by omega) ?_
  refine hz_iloadn (pc := 14) 3 (hz_dec kX11_due 8 rfl) rfl ?_
  refine hz_iconst (pc := 15) (v := nI 2) (hz_dec kX11_due 9 rfl) (by decide) ?_
  refine hz_n_le (pc := 16) (tgt := 21) (hz_dec kX11_due 10 rfl) (by decide) (by omega) (by omega) (fun hq2 => ?_) (fun hq2 => ?_)
  · skip
    refine hz_aloadn (pc := 21) 0 (hz_dec kX11_due 13 rfl) rfl ?_
    refine hz_get (pc := 22) (hz_dec kX11_due 14 rfl) fo_X11_166 hn (by omega) (by omega) rfl ?_
    refine hz_z_ne (pc := 25) (tgt := 31) (hz_dec kX11_due 15 rfl) (by decide) (by omega) (fun hq3 => ?_) (fun hq3 => ?_)
    · skip
      refine hz_aloadn (pc := 31) 0 (hz_dec kX11_due 18 rfl) rfl ?_
      refine hz_get (pc := 32) (hz_dec kX11_due 19 rfl) fo_X11_104 hn (by omega) (by omega) rfl ?_
      refine hz_astore (pc := 35) (i := 4) (lo2 := [(4, .ref (63 + 34 * v + 21)), (3, .ref (63 + 34 * v)), (0, .ref 8), (1, .int (nI v)), (2, .int (nI 1))]) (hz_dec kX11_due 20 rfl) (by decide) rfl ?_
      refine hz_iloadn (pc := 37) 4 (hz_dec kX11_due 21 rfl) rfl ?_
      refine hz_z_ne (pc := 38) (tgt := 52) (hz_dec kX11_due 22 rfl) (by decide) (by omega) (fun hq4 => ?_) (fun hq4 => ?_)
      · skip
        refine hz_iloadn (pc := 52) 4 (hz_dec kX11_due 28 rfl) rfl ?_
        refine hz_iconst (pc := 53) (v := nI 1) (hz_dec kX11_due 29 rfl) (by decide) ?_
        refine hz_n_ne (pc := 54) (tgt := 68) (hz_dec kX11_due 30 rfl) (by decide) (by omega) (by omega) (fun hq5 => ?_) (fun hq5 => ?_)
        · skip
          exact absurd hq5 (by decide)
        · skip
          refine hz_aload (pc := 57) 0 (hz_dec kX11_due 31 rfl) rfl ?_
          refine hz_aload (pc := 59) 0 (hz_dec kX11_due 32 rfl) rfl ?_
          refine hz_get (pc := 61) (hz_dec kX11_due 33 rfl) fo_X11_235 htO (by omega) (by omega) rfl ?_
          refine hz_callV (pc := 64) (a := 63 + 34 * v + 21) (As := [.int (nI (ksT N.1))]) (st := []) (hz_dec kX11_due 34 rfl) co_X11_238 im_X10_middleTime se_X10_middleTime rfl htO (by omega) (by omega) (c_mid hT (by omega) (by omega) (x := ksT N.1) (by omega)) rfl (by decide) ⟨Nat.le_refl _, Nat.le_refl _⟩ (Nat.le_of_ble_eq_true rfl) rfl (fun r9 z9 M2 hp9 => ?_)
          obtain ⟨rfl, rfl, f9, rfl⟩ := hp9
          have hf2 : frS [(63 + 34 * v, 63 + 34 * v + 34)] M (va_up M (63 + 34 * v + 21 + 12) (.inl (0, 11, .inl f9))) := frS.rf.upr (by simp only [outS, and_true]; omega)
          have hn2 : ndR (va_up M (63 + 34 * v + 21 + 12) (.inl (0, 11, .inl f9))) (63 + 34 * v) v N := by obtain ⟨q1, ⟨g, q2, q3⟩, q4, q5, q6, q7⟩ := id hK; exact ⟨hz_mne q1 (by omega), ⟨g, hz_mne q2 (by omega), q3⟩, q4.fm (fun q r1 r2 => va_up_ne _ _ (by omega)) ⟨f9, va_up_self _ _ _⟩, q5.fr (fun q r1 r2 => va_up_ne _ _ (by omega)), q6.fr (fun q r1 r2 => va_up_ne _ _ (by omega)), q7.fr (fun q r1 r2 => va_up_ne _ _ (by omega))⟩
          have hR2 : hcR (va_up M (63 + 34 * v + 21 + 12) (.inl (0, 11, .inl f9))) z H ll fr kn := by have q := hR.n hv hf2 hn2; rw [hoS_id hv hN] at q; exact q
          exact hz_iret (pc := 67) (hz_dec kX11_due 35 rfl) rfl ⟨rfl, rfl, (hf2.mono (fun q (h9 : outS [(8, 63 + 34 * (hoN H).length)] q) => ⟨by have r := h9.1; omega, trivial⟩)), ll, fr, kn, hR2⟩
      · skip
        exact absurd hq4 (by decide)
    · skip
      exact absurd hq3 (by decide)
  · skip
    exact absurd hq2 (by decide)
set_option maxHeartbeats 4000000 in
set_option maxRecDepth 100000 in
theorem c_rdue1 {κ : hz_C} {z B : Nat} {M : hz_M} {H : ho_H} (hnn : (hoN H).length ≤ 6) (hT4 : (hoT H).length ≤ 4000) (hR : hmR M z B H) {v : Nat} (hv : v < (hoN H).length) {N : nd_N} (hN : ndL (hoN H) v = N) (hup : N.2.1 = true) (hI : ksI N.1) : hz_Mt κ xX12_due 5 0 0 [.ref B, .int (nI v), .int (nI 1)] z M (hmP M z B (.int (midE (enB (ksB N.1)) (ksT N.1))) H) := by
  refine hz_ent (lo := [(0, .ref B), (1, .int (nI v)), (2, .int (nI 1))]) (by decide) (Nat.le_of_ble_eq_true rfl) rfl ?_
  obtain ⟨hk0_, hE0, ⟨m1, m2, m3⟩, hNd, a5, a6, a7, a8⟩ := id hR
  obtain ⟨⟨fs, hO, hF⟩, -, -, h8, hz⟩ := id hk0_
  obtain ⟨x1, x3, x4, x5, x6, x7, x8⟩ := id m3
  have eSt : stI (ndL (hoN H) v).2.1 = nI 0 := by rw [hN, hup]; rfl
  refine hz_aloadn (pc := 0) 0 (hz_dec kX12_due 0 rfl) rfl ?_
  refine hz_iconst (pc := 1) (v := nI 0) (hz_dec kX12_due 1 rfl) (by decide) ?_
  refine hz_puti (pc := 2) (hz_dec kX12_due 2 rfl) fo_X12_302 ft_X12_0 hO h8 (by omega) (by rw [hF.1]; decide) ?_
  have hf1 : mfr B [0, 89] [] M (va_up M B (.inr (12, (List.set fs 0 (.int (nI 0)))))) := (mfr.rf ⟨fs, hO, hF⟩).upO (k := 0) hO hF rfl rfl
  have hR1 : hmR (va_up M B (.inr (12, (List.set fs 0 (.int (nI 0)))))) z B H := hR.m0 hf1 hE0.upO ((fdB_of (va_up_self _ _ _) 89).trans ((List.getElem?_set_ne (by decide)).trans ((fdB_of hO 89).symm.trans x8)))
  generalize (va_up M B (.inr (12, (List.set fs 0 (.int (nI 0)))))) = M1 at *
  obtain ⟨hk1, hE1, ⟨n1, d1, q1⟩, hNd1, a51, a61, a71, a81⟩ := id hR1
  obtain ⟨⟨fs1, hO1, hF1⟩, -, -, -, -⟩ := id hk1
  have h0 : mdN M1 B v N := by have q := hNd1 v hv; rw [hN] at q; exact q
  have hv6 : v < 6 := by omega
  have h01 : mnS M1 B v 1 N.1 (pvI (ksF N.1)) (ksP N.1) := by have q := h0.1; rw [hup] at q; exact q
  have h02 : orX (fA M1 B) v (mkO (ksL N.1)) := by have q := h0.2.1; rw [hup] at q; exact q
  obtain ⟨p1, p2, p3, p4, ⟨p5a, p5b, p5c⟩, p6, p7, p9⟩ := id h01
  have hbp := hI.1.p hI.2.1
  obtain ⟨b1, b2, b3, b4, b5, b6, b7, b8⟩ := id hbp
  have hb5 := hI.2.1
  have hht := b3.ht (k := ksT N.1) (by omega)
  refine hz_aloadn (pc := 5) 0 (hz_dec kX12_due 3 rfl) rfl ?_
  refine hz_iloadn (pc := 6) 1 (hz_dec kX12_due 4 rfl) rfl ?_
  refine hz_xV (pc := 7) (a := B) (As := [.int (nI v)]) (st := []) (hz_dec kX12_due 5 rfl) co_X12_692 im_X12_stateOf se_X12_stateOf rfl hO1 h8 (by omega) (c_st hnn hR1 hv) rfl (by decide) ⟨Nat.le_refl _, Nat.le_refl _⟩ (Nat.le_of_ble_eq_true rfl) rfl ?_
  refine hz_eqi (pc := 10) eSt ?_
  refine hz_istoren (pc := 10) (i := 3) (lo2 := [(3, .int (nI 0)), (0, .ref B), (1, .int (nI v)), (2, .int (nI 1))]) (hz_dec kX12_due 6 rfl) rfl (by decide) rfl ?_
  refine hz_iloadn (pc := 11) 0 (hz_dec kX12_due 7 rfl) rfl ?_
  refine hz_iconst (pc := 12) (v := (-1)) (hz_dec kX12_due 8 rfl) (by decide) ?_
  have erx : rx (ksB N.1).length (ksT N.1) = ksT N.1 := rx_lt hI.2.1
  refine hz_icmp_eq (pc := 13) (tgt := 25) (hz_dec kX12_due 9 rfl) (by decide) (fun hq1 => ?_) (fun hq1 => ?_)
  · skip
    exact absurd hq1 (by decide)
  · skip
    refine hz_iloadn (pc := 16) 3 (hz_dec kX12_due 10 rfl) rfl ?_
    refine hz_z_lt (pc := 17) (tgt := 25) (hz_dec kX12_due 11 rfl) (by decide) (by omega) ?_
    refine hz_iloadn (pc := 20) 3 (hz_dec kX12_due 12 rfl) rfl ?_
    refine hz_iconst (pc := 21) (v := nI 2) (hz_dec kX12_due 13 rfl) (by decide) ?_
    refine hz_n_le (pc := 22) (tgt := 27) (hz_dec kX12_due 14 rfl) (by decide) (by omega) (by omega) (fun hq3 => ?_) (fun hq3 => ?_)
    · skip
      refine hz_iloadn (pc := 27) 0 (hz_dec kX12_due 17 rfl) rfl ?_
      refine hz_bipush (pc := 28) (v := (-2)) (hz_dec kX12_due 18 rfl) (by decide) ?_
      refine hz_icmp_ne (pc := 30) (tgt := 36) (hz_dec kX12_due 19 rfl) (by decide) (fun hq4 => ?_) (fun hq4 => ?_)
      · skip
        refine hz_aloadn (pc := 36) 1 (hz_dec kX12_due 22 rfl) rfl ?_
        refine hz_get (pc := 37) (v := .ref (B + 21)) (hz_dec kX12_due 23 rfl) fo_X12_74 hO1 h8 (by omega) (hF1.2 23 (by decide) (by decide)) ?_
        refine hz_iloadn (pc := 40) 2 (hz_dec kX12_due 24 rfl) rfl ?_
        refine hz_iald (pc := 41) (j := v) (hz_dec kX12_due 25 rfl) hE1.a21 (by omega) (by omega) rfl (by omega) (by decide) ?_
        refine hz_eqi (pc := 42) p5b.2.1 ?_
        refine hz_istore (pc := 42) (i := 4) (lo2 := [(4, .int (nI (ksT N.1))), (3, .int (nI 0)), (0, .ref B), (1, .int (nI v)), (2, .int (nI 1))]) (hz_dec kX12_due 26 rfl) (by decide) rfl ?_
        refine hz_iloadn (pc := 44) 4 (hz_dec kX12_due 27 rfl) rfl ?_
        refine hz_z_ne (pc := 45) (tgt := 58) (hz_dec kX12_due 28 rfl) (by decide) (by omega) (fun hq5 => ?_) (fun hq5 => ?_)
        · skip
          refine hz_iloadn (pc := 58) 4 (hz_dec kX12_due 34 rfl) rfl ?_
          refine hz_iconst (pc := 59) (v := nI 1) (hz_dec kX12_due 35 rfl) (by decide) ?_
          refine hz_n_ne (pc := 60) (tgt := 73) (hz_dec kX12_due 36 rfl) (by decide) (by omega) (by omega) (fun hq6 => ?_) (fun hq6 => ?_)
          · skip
            exact absurd hq6 (by decide)
          · skip
            refine hz_aloadn (pc := 63) 2 (hz_dec kX12_due 37 rfl) rfl ?_
            refine hz_iloadn (pc := 64) 3 (hz_dec kX12_due 38 rfl) rfl ?_
            refine hz_iload (pc := 65) 0 (hz_dec kX12_due 39 rfl) rfl ?_
            have hcd := c_mmid (κ := κ) hk1.1 hE1 h8 hz hv6 (by omega) (by omega) p5a b3 (y := ksT N.1) (by omega)
            rw [erx] at hcd
            refine hz_callV (pc := 67) (a := B) (As := [.int (nI v), .int (nI (ksT N.1))]) (st := []) (hz_dec kX12_due 40 rfl) co_X12_547 im_X12_middleBehind se_X12_middleBehind rfl hO1 h8 (by omega) (hcd) rfl (by decide) ⟨Nat.le_refl _, Nat.le_refl _⟩ (Nat.le_of_ble_eq_true rfl) rfl (fun r9 z9 M2 hp9 => ?_)
            obtain ⟨rfl, rfl, f9, rfl⟩ := hp9
            have hm2 : mfr B [] [42] M1 (va_up M1 (B + 42) (.inl (0, 11, .inl f9))) := (mfr.rf hk1.1).upA rfl (by decide)
            have hR2 : hmR (va_up M1 (B + 42) (.inl (0, 11, .inl f9))) z B H := hR1.sc hm2 (hE1.upA (by decide)) rfl rfl rfl rfl rfl rfl rfl rfl rfl rfl rfl rfl rfl rfl rfl rfl rfl rfl rfl
            refine hz_goto (pc := 70) (tgt := 89) (hz_dec kX12_due 41 rfl) (by decide) ?_
            exact hz_iret (pc := 89) (hz_dec kX12_due 51 rfl) rfl ⟨rfl, rfl, (hf1.S rfl).tr (hm2.S rfl), hR2⟩
        · skip
          exact absurd hq5 (by decide)
      · skip
        exact absurd hq4 (by decide)
    · skip
      exact absurd hq3 (by decide)
set_option maxHeartbeats 4000000 in
set_option maxRecDepth 100000 in
theorem c_due2 {κ : hz_C} {z : Nat} {M : hz_M} {H : ho_H} (hz : 63 + 34 * (hoN H).length ≤ z) (hnn : (hoN H).length ≤ 6) (hT4 : (hoT H).length ≤ 4000) {ll : Nat} {fr kn : Int32} (hR : hcR M z H ll fr kn) {v : Nat} (hv : v < (hoN H).length) {N : nd_N} (hN : ndL (hoN H) v = N) (hup : N.2.1 = true) (hI : ksI N.1) : hz_Mt κ xX11_due 5 0 0 [.ref 8, .int (nI v), .int (nI 2)] z M (hcP M z H (.int (nI (subS (eH (enB (ksB N.1)) (ksT N.1) + 1)))) H) := by
  refine hz_ent (lo := [(0, .ref 8), (1, .int (nI v)), (2, .int (nI 2))]) (by decide) (Nat.le_of_ble_eq_true rfl) rfl ?_
  have hH := hR.1
  have hNs := hR.2.1
  obtain ⟨hO, hQ, hD⟩ := id hR.2.2.2.2.1
  obtain ⟨g53, h53⟩ := hR.2.2.2.2.2.1
  have hJ := hR.2.2.2.1
  obtain ⟨g56, h56, hT56⟩ := hR.2.2.2.2.2.2.2.2.2.1
  have hdf := hR.2.2.2.2.2.2.2.2.2.2
  have hck : ck_k M z := hJ.2.2.2.2.2.2.2.1
  have hcs : ck_s M := hJ.2.2.2.2.2.2.2.2.1
  have hz63 : 63 ≤ z := by omega
  have hK := hR.2.2.1 v hv
  rw [hN] at hK
  obtain ⟨hn, ⟨gd, hgd, hgD⟩, hT, hC, hP, hL⟩ := id hK
  have hn : M (63 + 34 * v) = ndO (63 + 34 * v) (nI v) (nI 1) (nI (ksN N.1)) (pvI (ksF N.1)) N.2.2.1 N.2.2.2 := by rw [hup] at hn; exact hn
  have htO := hT.1
  have htR := hT.2.1.1
  rw [List.length_map] at htR
  obtain ⟨fb, fht, ftm, fbi, t5, t6, t7, t8, tX⟩ := id hT.2.2.2.1
  have hen : (enB (ksB N.1)).length = (ksB N.1).length := enB_len _
  have hb5 := hI.2.1
  have hb113 := hI.1.top.2.1
  have hwf : wfE (enB (ksB N.1)) := hI.1.2.2.2.2.1
  have hht := hwf.ht (k := ksT N.1) (by omega)
  have hcw : ck_w M := hJ.2.2.2.2.2.2.2.2.2
  refine hz_aloadn (pc := 0) 0 (hz_dec kX11_due 0 rfl) rfl ?_
  refine hz_iloadn (pc := 1) 1 (hz_dec kX11_due 1 rfl) rfl ?_
  refine hz_xV (pc := 2) (a := 8) (As := [.int (nI v)]) (st := []) (hz_dec kX11_due 2 rfl) co_X11_162 im_X11_nodeOf se_X11_nodeOf rfl hH (by omega) (by omega) (c_nOf hz63 hH hnn hNs (b := v) hv) rfl (by decide) ⟨Nat.le_refl _, Nat.le_refl _⟩ (Nat.le_of_ble_eq_true rfl) rfl ?_
  refine hz_astoren (pc := 5) (i := 3) (lo2 := [(3, .ref (63 + 34 * v)), (0, .ref 8), (1, .int (nI v)), (2, .int (nI 2))]) (hz_dec kX11_due 3 rfl) rfl (by decide) rfl ?_
  refine hz_aloadn (pc := 6) 0 (hz_dec kX11_due 4 rfl) rfl ?_
  refine hz_ifnull (pc := 7) (hz_dec kX11_due 5 rfl) ?_
  refine hz_iloadn (pc := 10) 3 (hz_dec kX11_due 6 rfl) rfl ?_
  refine hz_z_lt (pc := 11) (tgt := 19) (hz_dec kX11_due 7 rfl) (by decide) (by omega) ?_
  refine hz_iloadn (pc := 14) 3 (hz_dec kX11_due 8 rfl) rfl ?_
  refine hz_iconst (pc := 15) (v := nI 2) (hz_dec kX11_due 9 rfl) (by decide) ?_
  refine hz_n_le (pc := 16) (tgt := 21) (hz_dec kX11_due 10 rfl) (by decide) (by omega) (by omega) (fun hq2 => ?_) (fun hq2 => ?_)
  · skip
    refine hz_aloadn (pc := 21) 0 (hz_dec kX11_due 13 rfl) rfl ?_
    refine hz_get (pc := 22) (hz_dec kX11_due 14 rfl) fo_X11_166 hn (by omega) (by omega) rfl ?_
    refine hz_z_ne (pc := 25) (tgt := 31) (hz_dec kX11_due 15 rfl) (by decide) (by omega) (fun hq3 => ?_) (fun hq3 => ?_)
    · skip
      refine hz_aloadn (pc := 31) 0 (hz_dec kX11_due 18 rfl) rfl ?_
      refine hz_get (pc := 32) (hz_dec kX11_due 19 rfl) fo_X11_104 hn (by omega) (by omega) rfl ?_
      refine hz_astore (pc := 35) (i := 4) (lo2 := [(4, .ref (63 + 34 * v + 21)), (3, .ref (63 + 34 * v)), (0, .ref 8), (1, .int (nI v)), (2, .int (nI 2))]) (hz_dec kX11_due 20 rfl) (by decide) rfl ?_
      refine hz_iloadn (pc := 37) 4 (hz_dec kX11_due 21 rfl) rfl ?_
      refine hz_z_ne (pc := 38) (tgt := 52) (hz_dec kX11_due 22 rfl) (by decide) (by omega) (fun hq4 => ?_) (fun hq4 => ?_)
      · skip
        refine hz_iloadn (pc := 52) 4 (hz_dec kX11_due 28 rfl) rfl ?_
        refine hz_iconst (pc := 53) (v := nI 1) (hz_dec kX11_due 29 rfl) (by decide) ?_
        refine hz_n_ne (pc := 54) (tgt := 68) (hz_dec kX11_due 30 rfl) (by decide) (by omega) (by omega) (fun hq5 => ?_) (fun hq5 => ?_)
        · skip
          refine hz_aload (pc := 68) 0 (hz_dec kX11_due 36 rfl) rfl ?_
          refine hz_get (pc := 70) (hz_dec kX11_due 37 rfl) fo_X11_241 htO (by omega) (by omega) rfl ?_
          refine hz_aload (pc := 73) 0 (hz_dec kX11_due 38 rfl) rfl ?_
          refine hz_get (pc := 75) (hz_dec kX11_due 39 rfl) fo_X11_235 htO (by omega) (by omega) rfl ?_
          refine hz_iald (pc := 78) (j := ksT N.1) (hz_dec kX11_due 40 rfl) t6 (by omega) (by omega) rfl (by omega) (by decide) ?_
          refine hz_eqi (pc := 79) (tX (ksT N.1) (by omega)).2.1 ?_
          refine hz_iconst (pc := 79) (v := nI 1) (hz_dec kX11_due 41 rfl) (by decide) ?_
          refine hz_addN (pc := 80) (hz_dec kX11_due 42 rfl) ?_
          refine hz_xS (pc := 81) (As := [.int (nI ((eH (enB (ksB N.1)) (ksT N.1)) + 1))]) (st := []) (hz_dec kX11_due 43 rfl) co_X11_263 sc_X3_subsidyAt (c_subs (h_ := eH (enB (ksB N.1)) (ksT N.1) + 1) (by omega)) rfl (by decide) ⟨Nat.le_refl _, Nat.le_refl _⟩ (Nat.le_of_ble_eq_true rfl) rfl ?_
          exact hz_iret (pc := 84) (hz_dec kX11_due 44 rfl) rfl (hcP.no hR _)
        · skip
          exact absurd hq5 (by decide)
      · skip
        exact absurd hq4 (by decide)
    · skip
      exact absurd hq3 (by decide)
  · skip
    exact absurd hq2 (by decide)
set_option maxHeartbeats 4000000 in
set_option maxRecDepth 100000 in
theorem c_rdue2 {κ : hz_C} {z B : Nat} {M : hz_M} {H : ho_H} (hnn : (hoN H).length ≤ 6) (hT4 : (hoT H).length ≤ 4000) (hR : hmR M z B H) {v : Nat} (hv : v < (hoN H).length) {N : nd_N} (hN : ndL (hoN H) v = N) (hup : N.2.1 = true) (hI : ksI N.1) : hz_Mt κ xX12_due 5 0 0 [.ref B, .int (nI v), .int (nI 2)] z M (hmP M z B (.int (nI (subS (eH (enB (ksB N.1)) (ksT N.1) + 1)))) H) := by
  refine hz_ent (lo := [(0, .ref B), (1, .int (nI v)), (2, .int (nI 2))]) (by decide) (Nat.le_of_ble_eq_true rfl) rfl ?_
  obtain ⟨hk0_, hE0, ⟨m1, m2, m3⟩, hNd, a5, a6, a7, a8⟩ := id hR
  obtain ⟨⟨fs, hO, hF⟩, -, -, h8, hz⟩ := id hk0_
  obtain ⟨x1, x3, x4, x5, x6, x7, x8⟩ := id m3
  have eSt : stI (ndL (hoN H) v).2.1 = nI 0 := by rw [hN, hup]; rfl
  refine hz_aloadn (pc := 0) 0 (hz_dec kX12_due 0 rfl) rfl ?_
  refine hz_iconst (pc := 1) (v := nI 0) (hz_dec kX12_due 1 rfl) (by decide) ?_
  refine hz_puti (pc := 2) (hz_dec kX12_due 2 rfl) fo_X12_302 ft_X12_0 hO h8 (by omega) (by rw [hF.1]; decide) ?_
  have hf1 : mfr B [0, 89] [] M (va_up M B (.inr (12, (List.set fs 0 (.int (nI 0)))))) := (mfr.rf ⟨fs, hO, hF⟩).upO (k := 0) hO hF rfl rfl
  have hR1 : hmR (va_up M B (.inr (12, (List.set fs 0 (.int (nI 0)))))) z B H := hR.m0 hf1 hE0.upO ((fdB_of (va_up_self _ _ _) 89).trans ((List.getElem?_set_ne (by decide)).trans ((fdB_of hO 89).symm.trans x8)))
  generalize (va_up M B (.inr (12, (List.set fs 0 (.int (nI 0)))))) = M1 at *
  obtain ⟨hk1, hE1, ⟨n1, d1, q1⟩, hNd1, a51, a61, a71, a81⟩ := id hR1
  obtain ⟨⟨fs1, hO1, hF1⟩, -, -, -, -⟩ := id hk1
  have h0 : mdN M1 B v N := by have q := hNd1 v hv; rw [hN] at q; exact q
  have hv6 : v < 6 := by omega
  have h01 : mnS M1 B v 1 N.1 (pvI (ksF N.1)) (ksP N.1) := by have q := h0.1; rw [hup] at q; exact q
  have h02 : orX (fA M1 B) v (mkO (ksL N.1)) := by have q := h0.2.1; rw [hup] at q; exact q
  obtain ⟨p1, p2, p3, p4, ⟨p5a, p5b, p5c⟩, p6, p7, p9⟩ := id h01
  have hbp := hI.1.p hI.2.1
  obtain ⟨b1, b2, b3, b4, b5, b6, b7, b8⟩ := id hbp
  have hb5 := hI.2.1
  have hht := b3.ht (k := ksT N.1) (by omega)
  refine hz_aloadn (pc := 5) 0 (hz_dec kX12_due 3 rfl) rfl ?_
  refine hz_iloadn (pc := 6) 1 (hz_dec kX12_due 4 rfl) rfl ?_
  refine hz_xV (pc := 7) (a := B) (As := [.int (nI v)]) (st := []) (hz_dec kX12_due 5 rfl) co_X12_692 im_X12_stateOf se_X12_stateOf rfl hO1 h8 (by omega) (c_st hnn hR1 hv) rfl (by decide) ⟨Nat.le_refl _, Nat.le_refl _⟩ (Nat.le_of_ble_eq_true rfl) rfl ?_
  refine hz_eqi (pc := 10) eSt ?_
  refine hz_istoren (pc := 10) (i := 3) (lo2 := [(3, .int (nI 0)), (0, .ref B), (1, .int (nI v)), (2, .int (nI 2))]) (hz_dec kX12_due 6 rfl) rfl (by decide) rfl ?_
  refine hz_iloadn (pc := 11) 0 (hz_dec kX12_due 7 rfl) rfl ?_
  refine hz_iconst (pc := 12) (v := (-1)) (hz_dec kX12_due 8 rfl) (by decide) ?_
  have erx : rx (ksB N.1).length (ksT N.1) = ksT N.1 := rx_lt hI.2.1
  refine hz_icmp_eq (pc := 13) (tgt := 25) (hz_dec kX12_due 9 rfl) (by decide) (fun hq1 => ?_) (fun hq1 => ?_)
  · skip
    exact absurd hq1 (by decide)
  · skip
    refine hz_iloadn (pc := 16) 3 (hz_dec kX12_due 10 rfl) rfl ?_
    refine hz_z_lt (pc := 17) (tgt := 25) (hz_dec kX12_due 11 rfl) (by decide) (by omega) ?_
    refine hz_iloadn (pc := 20) 3 (hz_dec kX12_due 12 rfl) rfl ?_
    refine hz_iconst (pc := 21) (v := nI 2) (hz_dec kX12_due 13 rfl) (by decide) ?_
    refine hz_n_le (pc := 22) (tgt := 27) (hz_dec kX12_due 14 rfl) (by decide) (by omega) (by omega) (fun hq3 => ?_) (fun hq3 => ?_)
    · skip
      refine hz_iloadn (pc := 27) 0 (hz_dec kX12_due 17 rfl) rfl ?_
      refine hz_bipush (pc := 28) (v := (-2)) (hz_dec kX12_due 18 rfl) (by decide) ?_
      refine hz_icmp_ne (pc := 30) (tgt := 36) (hz_dec kX12_due 19 rfl) (by decide) (fun hq4 => ?_) (fun hq4 => ?_)
      · skip
        refine hz_aloadn (pc := 36) 1 (hz_dec kX12_due 22 rfl) rfl ?_
        refine hz_get (pc := 37) (v := .ref (B + 21)) (hz_dec kX12_due 23 rfl) fo_X12_74 hO1 h8 (by omega) (hF1.2 23 (by decide) (by decide)) ?_
        refine hz_iloadn (pc := 40) 2 (hz_dec kX12_due 24 rfl) rfl ?_
        refine hz_iald (pc := 41) (j := v) (hz_dec kX12_due 25 rfl) hE1.a21 (by omega) (by omega) rfl (by omega) (by decide) ?_
        refine hz_eqi (pc := 42) p5b.2.1 ?_
        refine hz_istore (pc := 42) (i := 4) (lo2 := [(4, .int (nI (ksT N.1))), (3, .int (nI 0)), (0, .ref B), (1, .int (nI v)), (2, .int (nI 2))]) (hz_dec kX12_due 26 rfl) (by decide) rfl ?_
        refine hz_iloadn (pc := 44) 4 (hz_dec kX12_due 27 rfl) rfl ?_
        refine hz_z_ne (pc := 45) (tgt := 58) (hz_dec kX12_due 28 rfl) (by decide) (by omega) (fun hq5 => ?_) (fun hq5 => ?_)
        · skip
          refine hz_iloadn (pc := 58) 4 (hz_dec kX12_due 34 rfl) rfl ?_
          refine hz_iconst (pc := 59) (v := nI 1) (hz_dec kX12_due 35 rfl) (by decide) ?_
          refine hz_n_ne (pc := 60) (tgt := 73) (hz_dec kX12_due 36 rfl) (by decide) (by omega) (by omega) (fun hq6 => ?_) (fun hq6 => ?_)
          · skip
            refine hz_aloadn (pc := 73) 2 (hz_dec kX12_due 42 rfl) rfl ?_
            refine hz_get (pc := 74) (v := .ref (B + 27)) (hz_dec kX12_due 43 rfl) fo_X12_92 hO1 h8 (by omega) (hF1.2 29 (by decide) (by decide)) ?_
            refine hz_iloadn (pc := 77) 3 (hz_dec kX12_due 44 rfl) rfl ?_
            refine hz_iload (pc := 78) 0 (hz_dec kX12_due 45 rfl) rfl ?_
            refine hz_xS (pc := 80) (As := [.int (nI v), .int (nI (ksT N.1))]) (st := [.ref (B + 27)]) (hz_dec kX12_due 46 rfl) co_X12_419 sc_X12_at0 (c_at0 (v := v) (y := ksT N.1)) rfl (by decide) ⟨Nat.le_refl _, Nat.le_refl _⟩ (Nat.le_of_ble_eq_true rfl) rfl ?_
            refine hz_iald (pc := 83) (j := 128 * v + ksT N.1) (hz_dec kX12_due 47 rfl) hE1.a27 (by omega) (by omega) rfl (by omega) (by decide) ?_
            refine hz_eqi (pc := 84) ((p5a (ksT N.1) (by omega)).1 (by omega)).2.1 ?_
            refine hz_iconst (pc := 84) (v := nI 1) (hz_dec kX12_due 48 rfl) (by decide) ?_
            refine hz_addN (pc := 85) (hz_dec kX12_due 49 rfl) ?_
            refine hz_xS (pc := 86) (As := [.int (nI ((eH (enB (ksB N.1)) (ksT N.1)) + 1))]) (st := []) (hz_dec kX12_due 50 rfl) co_X12_560 sc_X12_subsidy (c_msubs (h_ := eH (enB (ksB N.1)) (ksT N.1) + 1) (by omega)) rfl (by decide) ⟨Nat.le_refl _, Nat.le_refl _⟩ (Nat.le_of_ble_eq_true rfl) rfl ?_
            exact hz_iret (pc := 89) (hz_dec kX12_due 51 rfl) rfl ⟨rfl, rfl, hf1.S rfl, hR1⟩
          · skip
            exact absurd hq6 (by decide)
        · skip
          exact absurd hq5 (by decide)
      · skip
        exact absurd hq4 (by decide)
    · skip
      exact absurd hq3 (by decide)
