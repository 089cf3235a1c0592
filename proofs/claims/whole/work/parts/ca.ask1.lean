/-! house, told -/
theorem fu8p {x : Int32} (h : 0 ≤ x) : (if x < 0 then (-4 : Int32) else x) = x := if_neg (fun c => absurd h (Int32.not_le.mpr c))
theorem fu8n {x : Int32} (h : ¬ 0 ≤ x) : (if x < 0 then (-4 : Int32) else x) = -4 := if_pos (Int32.not_le.mp h)
set_option maxHeartbeats 4000000 in
set_option maxRecDepth 100000 in
theorem c_house0 {κ : hz_C} {z : Nat} {M : hz_M} {H : ho_H} (hz : 63 + 34 * (hoN H).length ≤ z) (hnn : (hoN H).length ≤ 6) (hT4 : (hoT H).length ≤ 4000) {ll : Nat} {fr kn : Int32} (hR : hcR M z H ll fr kn)  : hz_Mt κ xX11_house 0 0 0 [.ref 8, .int (nI 0)] z M (hcP M z H (.int (nI (hoN H).length)) H) := by
  refine hz_ent (lo := [(0, .ref 8), (1, .int (nI 0))]) (by decide) (Nat.le_of_ble_eq_true rfl) rfl ?_
  have hH := hR.1
  have hNs := hR.2.1
  obtain ⟨hO, hQ, hD⟩ := id hR.2.2.2.2.1
  obtain ⟨g53, h53⟩ := hR.2.2.2.2.2.1
  have hJ := hR.2.2.2.1
  obtain ⟨g56, h56, hT56⟩ := hR.2.2.2.2.2.2.2.2.2.1
  have hdf := hR.2.2.2.2.2.2.2.2.2.2
  have hck : ck_k M z := hJ.2.2.2.2.2.2.2.1
  have hcs : ck_s M := hJ.2.2.2.2.2.2.2.2.1
  have hz63 : 63 ≤ z := by omega
  have hrw := hQ.1.1
  rw [msB_len] at hrw
  obtain ⟨fB, gB, hfB, hgB, hxB⟩ := hQ.1.2.2.2
  have hql : (hoQ H).1.length ≤ 200 := by have q := hQ.1.2.1; rw [msB_len] at q; exact q
  obtain ⟨fN, hfN, hfNx⟩ := id hNs
  have hqe : gB (hoQ H).1.length = nI (msO (hoQ H).1 (hoQ H).1.length) := hxB.1 _ (by rw [msB_len]; exact Nat.le_refl _)
  refine hz_iloadn (pc := 0) 1 (hz_dec kX11_house 0 rfl) rfl ?_
  refine hz_swIn (pc := 1) (off := 51) (tgt := 52) (hz_dec kX11_house 1 rfl) (by decide) (by decide) rfl (by decide) ?_
  refine hz_aloadn (pc := 52) 0 (hz_dec kX11_house 2 rfl) rfl ?_
  refine hz_get (pc := 53) (hz_dec kX11_house 3 rfl) fo_X11_68 hH (by omega) (by omega) rfl ?_
  refine hz_alen (pc := 56) (hz_dec kX11_house 4 rfl) hfN (by decide) (by omega) (by omega) ?_
  exact hz_iret (pc := 57) (hz_dec kX11_house 5 rfl) rfl (hcP.no hR _)
set_option maxHeartbeats 4000000 in
set_option maxRecDepth 100000 in
theorem c_rhouse0 {κ : hz_C} {z B : Nat} {M : hz_M} {H : ho_H} (hnn : (hoN H).length ≤ 6) (hT4 : (hoT H).length ≤ 4000) (hR : hmR M z B H)  : hz_Mt κ xX12_house 0 0 0 [.ref B, .int (nI 0)] z M (hmP M z B (.int (nI (hoN H).length)) H) := by
  refine hz_ent (lo := [(0, .ref B), (1, .int (nI 0))]) (by decide) (Nat.le_of_ble_eq_true rfl) rfl ?_
  obtain ⟨hk0_, hE0, ⟨m1, m2, m3⟩, hNd, a5, a6, a7, a8⟩ := id hR
  obtain ⟨⟨fs, hO, hF⟩, -, -, h8, hz⟩ := id hk0_
  obtain ⟨x1, x3, x4, x5, x6, x7, x8⟩ := id m3
  refine hz_aloadn (pc := 0) 0 (hz_dec kX12_house 0 rfl) rfl ?_
  refine hz_iconst (pc := 1) (v := nI 0) (hz_dec kX12_house 1 rfl) (by decide) ?_
  refine hz_puti (pc := 2) (hz_dec kX12_house 2 rfl) fo_X12_302 ft_X12_0 hO h8 (by omega) (by rw [hF.1]; decide) ?_
  have hf1 : mfr B [0, 89] [] M (va_up M B (.inr (12, (List.set fs 0 (.int (nI 0)))))) := (mfr.rf ⟨fs, hO, hF⟩).upO (k := 0) hO hF rfl rfl
  have hR1 : hmR (va_up M B (.inr (12, (List.set fs 0 (.int (nI 0)))))) z B H := hR.m0 hf1 hE0.upO ((fdB_of (va_up_self _ _ _) 89).trans ((List.getElem?_set_ne (by decide)).trans ((fdB_of hO 89).symm.trans x8)))
  generalize (va_up M B (.inr (12, (List.set fs 0 (.int (nI 0)))))) = M1 at *
  obtain ⟨hk1, hE1, ⟨n1, d1, q1⟩, hNd1, a51, a61, a71, a81⟩ := id hR1
  obtain ⟨⟨fs1, hO1, hF1⟩, -, -, -, -⟩ := id hk1
  have g1_1 : fs1[1]? = some (.int (nI ((hoN H).length))) := (fdB_of hO1 1).symm.trans n1
  refine hz_iloadn (pc := 5) 1 (hz_dec kX12_house 3 rfl) rfl ?_
  refine hz_swIn (pc := 6) (off := 50) (tgt := 56) (hz_dec kX12_house 4 rfl) (by decide) (by decide) rfl (by decide) ?_
  refine hz_aloadn (pc := 56) 0 (hz_dec kX12_house 5 rfl) rfl ?_
  refine hz_get (pc := 57) (v := .int (nI ((hoN H).length))) (hz_dec kX12_house 6 rfl) fo_X12_289 hO1 h8 (by omega) g1_1 ?_
  exact hz_iret (pc := 60) (hz_dec kX12_house 7 rfl) rfl ⟨rfl, rfl, hf1.S rfl, hR1⟩
set_option maxHeartbeats 4000000 in
set_option maxRecDepth 100000 in
theorem c_house1 {κ : hz_C} {z : Nat} {M : hz_M} {H : ho_H} (hz : 63 + 34 * (hoN H).length ≤ z) (hnn : (hoN H).length ≤ 6) (hT4 : (hoT H).length ≤ 4000) {ll : Nat} {fr kn : Int32} (hR : hcR M z H ll fr kn)  : hz_Mt κ xX11_house 0 0 0 [.ref 8, .int (nI 1)] z M (hcP M z H (.int (hoW H)) H) := by
  refine hz_ent (lo := [(0, .ref 8), (1, .int (nI 1))]) (by decide) (Nat.le_of_ble_eq_true rfl) rfl ?_
  have hH := hR.1
  have hNs := hR.2.1
  obtain ⟨hO, hQ, hD⟩ := id hR.2.2.2.2.1
  obtain ⟨g53, h53⟩ := hR.2.2.2.2.2.1
  have hJ := hR.2.2.2.1
  obtain ⟨g56, h56, hT56⟩ := hR.2.2.2.2.2.2.2.2.2.1
  have hdf := hR.2.2.2.2.2.2.2.2.2.2
  have hck : ck_k M z := hJ.2.2.2.2.2.2.2.1
  have hcs : ck_s M := hJ.2.2.2.2.2.2.2.2.1
  have hz63 : 63 ≤ z := by omega
  have hrw := hQ.1.1
  rw [msB_len] at hrw
  obtain ⟨fB, gB, hfB, hgB, hxB⟩ := hQ.1.2.2.2
  have hql : (hoQ H).1.length ≤ 200 := by have q := hQ.1.2.1; rw [msB_len] at q; exact q
  obtain ⟨fN, hfN, hfNx⟩ := id hNs
  have hqe : gB (hoQ H).1.length = nI (msO (hoQ H).1 (hoQ H).1.length) := hxB.1 _ (by rw [msB_len]; exact Nat.le_refl _)
  refine hz_iloadn (pc := 0) 1 (hz_dec kX11_house 0 rfl) rfl ?_
  refine hz_swIn (pc := 1) (off := 57) (tgt := 58) (hz_dec kX11_house 1 rfl) (by decide) (by decide) rfl (by decide) ?_
  refine hz_aloadn (pc := 58) 0 (hz_dec kX11_house 6 rfl) rfl ?_
  refine hz_get (pc := 59) (hz_dec kX11_house 7 rfl) fo_X11_62 hH (by omega) (by omega) rfl ?_
  refine hz_get (pc := 62) (hz_dec kX11_house 8 rfl) fo_X11_320 hO (by omega) (by omega) rfl ?_
  exact hz_iret (pc := 65) (hz_dec kX11_house 9 rfl) rfl (hcP.no hR _)
set_option maxHeartbeats 4000000 in
set_option maxRecDepth 100000 in
theorem c_rhouse1 {κ : hz_C} {z B : Nat} {M : hz_M} {H : ho_H} (hnn : (hoN H).length ≤ 6) (hT4 : (hoT H).length ≤ 4000) (hR : hmR M z B H)  : hz_Mt κ xX12_house 0 0 0 [.ref B, .int (nI 1)] z M (hmP M z B (.int (hoW H)) H) := by
  refine hz_ent (lo := [(0, .ref B), (1, .int (nI 1))]) (by decide) (Nat.le_of_ble_eq_true rfl) rfl ?_
  obtain ⟨hk0_, hE0, ⟨m1, m2, m3⟩, hNd, a5, a6, a7, a8⟩ := id hR
  obtain ⟨⟨fs, hO, hF⟩, -, -, h8, hz⟩ := id hk0_
  obtain ⟨x1, x3, x4, x5, x6, x7, x8⟩ := id m3
  refine hz_aloadn (pc := 0) 0 (hz_dec kX12_house 0 rfl) rfl ?_
  refine hz_iconst (pc := 1) (v := nI 0) (hz_dec kX12_house 1 rfl) (by decide) ?_
  refine hz_puti (pc := 2) (hz_dec kX12_house 2 rfl) fo_X12_302 ft_X12_0 hO h8 (by omega) (by rw [hF.1]; decide) ?_
  have hf1 : mfr B [0, 89] [] M (va_up M B (.inr (12, (List.set fs 0 (.int (nI 0)))))) := (mfr.rf ⟨fs, hO, hF⟩).upO (k := 0) hO hF rfl rfl
  have hR1 : hmR (va_up M B (.inr (12, (List.set fs 0 (.int (nI 0)))))) z B H := hR.m0 hf1 hE0.upO ((fdB_of (va_up_self _ _ _) 89).trans ((List.getElem?_set_ne (by decide)).trans ((fdB_of hO 89).symm.trans x8)))
  generalize (va_up M B (.inr (12, (List.set fs 0 (.int (nI 0)))))) = M1 at *
  obtain ⟨hk1, hE1, ⟨n1, d1, q1⟩, hNd1, a51, a61, a71, a81⟩ := id hR1
  obtain ⟨⟨fs1, hO1, hF1⟩, -, -, -, -⟩ := id hk1
  have g89_1 : fs1[89]? = some (.int (hoW H)) := (fdB_of hO1 89).symm.trans q1.2.2.2.2.2.2
  refine hz_iloadn (pc := 5) 1 (hz_dec kX12_house 3 rfl) rfl ?_
  refine hz_swIn (pc := 6) (off := 55) (tgt := 61) (hz_dec kX12_house 4 rfl) (by decide) (by decide) rfl (by decide) ?_
  refine hz_aloadn (pc := 61) 0 (hz_dec kX12_house 8 rfl) rfl ?_
  refine hz_get (pc := 62) (v := .int (hoW H)) (hz_dec kX12_house 9 rfl) fo_X12_619 hO1 h8 (by omega) g89_1 ?_
  exact hz_iret (pc := 65) (hz_dec kX12_house 10 rfl) rfl ⟨rfl, rfl, hf1.S rfl, hR1⟩
set_option maxHeartbeats 4000000 in
set_option maxRecDepth 100000 in
theorem c_house2 {κ : hz_C} {z : Nat} {M : hz_M} {H : ho_H} (hz : 63 + 34 * (hoN H).length ≤ z) (hnn : (hoN H).length ≤ 6) (hT4 : (hoT H).length ≤ 4000) {ll : Nat} {fr kn : Int32} (hR : hcR M z H ll fr kn)  : hz_Mt κ xX11_house 0 0 0 [.ref 8, .int (nI 2)] z M (hcP M z H (.int (nI (hoQ H).1.length)) H) := by
  refine hz_ent (lo := [(0, .ref 8), (1, .int (nI 2))]) (by decide) (Nat.le_of_ble_eq_true rfl) rfl ?_
  have hH := hR.1
  have hNs := hR.2.1
  obtain ⟨hO, hQ, hD⟩ := id hR.2.2.2.2.1
  obtain ⟨g53, h53⟩ := hR.2.2.2.2.2.1
  have hJ := hR.2.2.2.1
  obtain ⟨g56, h56, hT56⟩ := hR.2.2.2.2.2.2.2.2.2.1
  have hdf := hR.2.2.2.2.2.2.2.2.2.2
  have hck : ck_k M z := hJ.2.2.2.2.2.2.2.1
  have hcs : ck_s M := hJ.2.2.2.2.2.2.2.2.1
  have hz63 : 63 ≤ z := by omega
  have hrw := hQ.1.1
  rw [msB_len] at hrw
  obtain ⟨fB, gB, hfB, hgB, hxB⟩ := hQ.1.2.2.2
  have hql : (hoQ H).1.length ≤ 200 := by have q := hQ.1.2.1; rw [msB_len] at q; exact q
  obtain ⟨fN, hfN, hfNx⟩ := id hNs
  have hqe : gB (hoQ H).1.length = nI (msO (hoQ H).1 (hoQ H).1.length) := hxB.1 _ (by rw [msB_len]; exact Nat.le_refl _)
  refine hz_iloadn (pc := 0) 1 (hz_dec kX11_house 0 rfl) rfl ?_
  refine hz_swIn (pc := 1) (off := 65) (tgt := 66) (hz_dec kX11_house 1 rfl) (by decide) (by decide) rfl (by decide) ?_
  refine hz_aloadn (pc := 66) 0 (hz_dec kX11_house 10 rfl) rfl ?_
  refine hz_get (pc := 67) (hz_dec kX11_house 11 rfl) fo_X11_62 hH (by omega) (by omega) rfl ?_
  refine hz_get (pc := 70) (hz_dec kX11_house 12 rfl) fo_X11_342 hO (by omega) (by omega) rfl ?_
  refine hz_get (pc := 73) (hz_dec kX11_house 13 rfl) fo_X11_220 hrw (by omega) (by omega) rfl ?_
  exact hz_iret (pc := 76) (hz_dec kX11_house 14 rfl) rfl (hcP.no hR _)
set_option maxHeartbeats 4000000 in
set_option maxRecDepth 100000 in
theorem c_rhouse2 {κ : hz_C} {z B : Nat} {M : hz_M} {H : ho_H} (hnn : (hoN H).length ≤ 6) (hT4 : (hoT H).length ≤ 4000) (hR : hmR M z B H)  : hz_Mt κ xX12_house 0 0 0 [.ref B, .int (nI 2)] z M (hmP M z B (.int (nI (hoQ H).1.length)) H) := by
  refine hz_ent (lo := [(0, .ref B), (1, .int (nI 2))]) (by decide) (Nat.le_of_ble_eq_true rfl) rfl ?_
  obtain ⟨hk0_, hE0, ⟨m1, m2, m3⟩, hNd, a5, a6, a7, a8⟩ := id hR
  obtain ⟨⟨fs, hO, hF⟩, -, -, h8, hz⟩ := id hk0_
  obtain ⟨x1, x3, x4, x5, x6, x7, x8⟩ := id m3
  refine hz_aloadn (pc := 0) 0 (hz_dec kX12_house 0 rfl) rfl ?_
  refine hz_iconst (pc := 1) (v := nI 0) (hz_dec kX12_house 1 rfl) (by decide) ?_
  refine hz_puti (pc := 2) (hz_dec kX12_house 2 rfl) fo_X12_302 ft_X12_0 hO h8 (by omega) (by rw [hF.1]; decide) ?_
  have hf1 : mfr B [0, 89] [] M (va_up M B (.inr (12, (List.set fs 0 (.int (nI 0)))))) := (mfr.rf ⟨fs, hO, hF⟩).upO (k := 0) hO hF rfl rfl
  have hR1 : hmR (va_up M B (.inr (12, (List.set fs 0 (.int (nI 0)))))) z B H := hR.m0 hf1 hE0.upO ((fdB_of (va_up_self _ _ _) 89).trans ((List.getElem?_set_ne (by decide)).trans ((fdB_of hO 89).symm.trans x8)))
  generalize (va_up M B (.inr (12, (List.set fs 0 (.int (nI 0)))))) = M1 at *
  obtain ⟨hk1, hE1, ⟨n1, d1, q1⟩, hNd1, a51, a61, a71, a81⟩ := id hR1
  obtain ⟨⟨fs1, hO1, hF1⟩, -, -, -, -⟩ := id hk1
  have g86_1 : fs1[86]? = some (.int (nI ((hoQ H).1.length))) := (fdB_of hO1 86).symm.trans q1.2.2.2.1
  refine hz_iloadn (pc := 5) 1 (hz_dec kX12_house 3 rfl) rfl ?_
  refine hz_swIn (pc := 6) (off := 60) (tgt := 66) (hz_dec kX12_house 4 rfl) (by decide) (by decide) rfl (by decide) ?_
  refine hz_aloadn (pc := 66) 0 (hz_dec kX12_house 11 rfl) rfl ?_
  refine hz_get (pc := 67) (v := .int (nI ((hoQ H).1.length))) (hz_dec kX12_house 12 rfl) fo_X12_610 hO1 h8 (by omega) g86_1 ?_
  exact hz_iret (pc := 70) (hz_dec kX12_house 13 rfl) rfl ⟨rfl, rfl, hf1.S rfl, hR1⟩
set_option maxHeartbeats 4000000 in
set_option maxRecDepth 100000 in
theorem c_house3 {κ : hz_C} {z : Nat} {M : hz_M} {H : ho_H} (hz : 63 + 34 * (hoN H).length ≤ z) (hnn : (hoN H).length ≤ 6) (hT4 : (hoT H).length ≤ 4000) {ll : Nat} {fr kn : Int32} (hR : hcR M z H ll fr kn)  : hz_Mt κ xX11_house 0 0 0 [.ref 8, .int (nI 3)] z M (hcP M z H (.int (nI (msO (hoQ H).1 (hoQ H).1.length))) H) := by
  refine hz_ent (lo := [(0, .ref 8), (1, .int (nI 3))]) (by decide) (Nat.le_of_ble_eq_true rfl) rfl ?_
  have hH := hR.1
  have hNs := hR.2.1
  obtain ⟨hO, hQ, hD⟩ := id hR.2.2.2.2.1
  obtain ⟨g53, h53⟩ := hR.2.2.2.2.2.1
  have hJ := hR.2.2.2.1
  obtain ⟨g56, h56, hT56⟩ := hR.2.2.2.2.2.2.2.2.2.1
  have hdf := hR.2.2.2.2.2.2.2.2.2.2
  have hck : ck_k M z := hJ.2.2.2.2.2.2.2.1
  have hcs : ck_s M := hJ.2.2.2.2.2.2.2.2.1
  have hz63 : 63 ≤ z := by omega
  have hrw := hQ.1.1
  rw [msB_len] at hrw
  obtain ⟨fB, gB, hfB, hgB, hxB⟩ := hQ.1.2.2.2
  have hql : (hoQ H).1.length ≤ 200 := by have q := hQ.1.2.1; rw [msB_len] at q; exact q
  obtain ⟨fN, hfN, hfNx⟩ := id hNs
  have hqe : gB (hoQ H).1.length = nI (msO (hoQ H).1 (hoQ H).1.length) := hxB.1 _ (by rw [msB_len]; exact Nat.le_refl _)
  refine hz_iloadn (pc := 0) 1 (hz_dec kX11_house 0 rfl) rfl ?_
  refine hz_swIn (pc := 1) (off := 76) (tgt := 77) (hz_dec kX11_house 1 rfl) (by decide) (by decide) rfl (by decide) ?_
  refine hz_aloadn (pc := 77) 0 (hz_dec kX11_house 15 rfl) rfl ?_
  refine hz_get (pc := 78) (hz_dec kX11_house 16 rfl) fo_X11_62 hH (by omega) (by omega) rfl ?_
  refine hz_get (pc := 81) (hz_dec kX11_house 17 rfl) fo_X11_342 hO (by omega) (by omega) rfl ?_
  refine hz_get (pc := 84) (hz_dec kX11_house 18 rfl) fo_X11_228 hrw (by omega) (by omega) rfl ?_
  refine hz_aloadn (pc := 87) 0 (hz_dec kX11_house 19 rfl) rfl ?_
  refine hz_get (pc := 88) (hz_dec kX11_house 20 rfl) fo_X11_62 hH (by omega) (by omega) rfl ?_
  refine hz_get (pc := 91) (hz_dec kX11_house 21 rfl) fo_X11_342 hO (by omega) (by omega) rfl ?_
  refine hz_get (pc := 94) (hz_dec kX11_house 22 rfl) fo_X11_220 hrw (by omega) (by omega) rfl ?_
  refine hz_iald (pc := 97) (j := (hoQ H).1.length) (hz_dec kX11_house 23 rfl) hgB (by omega) (by omega) rfl (by omega) (by omega) ?_
  refine hz_eqi (pc := 98) hqe ?_
  exact hz_iret (pc := 98) (hz_dec kX11_house 24 rfl) rfl (hcP.no hR _)
set_option maxHeartbeats 4000000 in
set_option maxRecDepth 100000 in
theorem c_rhouse3 {κ : hz_C} {z B : Nat} {M : hz_M} {H : ho_H} (hnn : (hoN H).length ≤ 6) (hT4 : (hoT H).length ≤ 4000) (hR : hmR M z B H)  : hz_Mt κ xX12_house 0 0 0 [.ref B, .int (nI 3)] z M (hmP M z B (.int (nI (msO (hoQ H).1 (hoQ H).1.length))) H) := by
  refine hz_ent (lo := [(0, .ref B), (1, .int (nI 3))]) (by decide) (Nat.le_of_ble_eq_true rfl) rfl ?_
  obtain ⟨hk0_, hE0, ⟨m1, m2, m3⟩, hNd, a5, a6, a7, a8⟩ := id hR
  obtain ⟨⟨fs, hO, hF⟩, -, -, h8, hz⟩ := id hk0_
  obtain ⟨x1, x3, x4, x5, x6, x7, x8⟩ := id m3
  refine hz_aloadn (pc := 0) 0 (hz_dec kX12_house 0 rfl) rfl ?_
  refine hz_iconst (pc := 1) (v := nI 0) (hz_dec kX12_house 1 rfl) (by decide) ?_
  refine hz_puti (pc := 2) (hz_dec kX12_house 2 rfl) fo_X12_302 ft_X12_0 hO h8 (by omega) (by rw [hF.1]; decide) ?_
  have hf1 : mfr B [0, 89] [] M (va_up M B (.inr (12, (List.set fs 0 (.int (nI 0)))))) := (mfr.rf ⟨fs, hO, hF⟩).upO (k := 0) hO hF rfl rfl
  have hR1 : hmR (va_up M B (.inr (12, (List.set fs 0 (.int (nI 0)))))) z B H := hR.m0 hf1 hE0.upO ((fdB_of (va_up_self _ _ _) 89).trans ((List.getElem?_set_ne (by decide)).trans ((fdB_of hO 89).symm.trans x8)))
  generalize (va_up M B (.inr (12, (List.set fs 0 (.int (nI 0)))))) = M1 at *
  obtain ⟨hk1, hE1, ⟨n1, d1, q1⟩, hNd1, a51, a61, a71, a81⟩ := id hR1
  obtain ⟨⟨fs1, hO1, hF1⟩, -, -, -, -⟩ := id hk1
  have g87_1 : fs1[87]? = some (.int (nI (msO (hoQ H).1 (hoQ H).1.length))) := (fdB_of hO1 87).symm.trans q1.2.2.2.2.1
  refine hz_iloadn (pc := 5) 1 (hz_dec kX12_house 3 rfl) rfl ?_
  refine hz_swIn (pc := 6) (off := 65) (tgt := 71) (hz_dec kX12_house 4 rfl) (by decide) (by decide) rfl (by decide) ?_
  refine hz_aloadn (pc := 71) 0 (hz_dec kX12_house 14 rfl) rfl ?_
  refine hz_get (pc := 72) (v := .int (nI (msO (hoQ H).1 (hoQ H).1.length))) (hz_dec kX12_house 15 rfl) fo_X12_613 hO1 h8 (by omega) g87_1 ?_
  exact hz_iret (pc := 75) (hz_dec kX12_house 16 rfl) rfl ⟨rfl, rfl, hf1.S rfl, hR1⟩
set_option maxHeartbeats 4000000 in
set_option maxRecDepth 100000 in
theorem c_house4 {κ : hz_C} {z : Nat} {M : hz_M} {H : ho_H} (hz : 63 + 34 * (hoN H).length ≤ z) (hnn : (hoN H).length ≤ 6) (hT4 : (hoT H).length ≤ 4000) {ll : Nat} {fr kn : Int32} (hR : hcR M z H ll fr kn)  : hz_Mt κ xX11_house 0 0 0 [.ref 8, .int (nI 4)] z M (hcP M z H (.int ((hoQ H).2)) H) := by
  refine hz_ent (lo := [(0, .ref 8), (1, .int (nI 4))]) (by decide) (Nat.le_of_ble_eq_true rfl) rfl ?_
  have hH := hR.1
  have hNs := hR.2.1
  obtain ⟨hO, hQ, hD⟩ := id hR.2.2.2.2.1
  obtain ⟨g53, h53⟩ := hR.2.2.2.2.2.1
  have hJ := hR.2.2.2.1
  obtain ⟨g56, h56, hT56⟩ := hR.2.2.2.2.2.2.2.2.2.1
  have hdf := hR.2.2.2.2.2.2.2.2.2.2
  have hck : ck_k M z := hJ.2.2.2.2.2.2.2.1
  have hcs : ck_s M := hJ.2.2.2.2.2.2.2.2.1
  have hz63 : 63 ≤ z := by omega
  have hrw := hQ.1.1
  rw [msB_len] at hrw
  obtain ⟨fB, gB, hfB, hgB, hxB⟩ := hQ.1.2.2.2
  have hql : (hoQ H).1.length ≤ 200 := by have q := hQ.1.2.1; rw [msB_len] at q; exact q
  obtain ⟨fN, hfN, hfNx⟩ := id hNs
  have hqe : gB (hoQ H).1.length = nI (msO (hoQ H).1 (hoQ H).1.length) := hxB.1 _ (by rw [msB_len]; exact Nat.le_refl _)
  refine hz_iloadn (pc := 0) 1 (hz_dec kX11_house 0 rfl) rfl ?_
  refine hz_swIn (pc := 1) (off := 98) (tgt := 99) (hz_dec kX11_house 1 rfl) (by decide) (by decide) rfl (by decide) ?_
  refine hz_aloadn (pc := 99) 0 (hz_dec kX11_house 25 rfl) rfl ?_
  refine hz_get (pc := 100) (hz_dec kX11_house 26 rfl) fo_X11_62 hH (by omega) (by omega) rfl ?_
  refine hz_get (pc := 103) (hz_dec kX11_house 27 rfl) fo_X11_383 hO (by omega) (by omega) rfl ?_
  exact hz_iret (pc := 106) (hz_dec kX11_house 28 rfl) rfl (hcP.no hR _)
set_option maxHeartbeats 4000000 in
set_option maxRecDepth 100000 in
theorem c_rhouse4 {κ : hz_C} {z B : Nat} {M : hz_M} {H : ho_H} (hnn : (hoN H).length ≤ 6) (hT4 : (hoT H).length ≤ 4000) (hR : hmR M z B H)  : hz_Mt κ xX12_house 0 0 0 [.ref B, .int (nI 4)] z M (hmP M z B (.int ((hoQ H).2)) H) := by
  refine hz_ent (lo := [(0, .ref B), (1, .int (nI 4))]) (by decide) (Nat.le_of_ble_eq_true rfl) rfl ?_
  obtain ⟨hk0_, hE0, ⟨m1, m2, m3⟩, hNd, a5, a6, a7, a8⟩ := id hR
  obtain ⟨⟨fs, hO, hF⟩, -, -, h8, hz⟩ := id hk0_
  obtain ⟨x1, x3, x4, x5, x6, x7, x8⟩ := id m3
  refine hz_aloadn (pc := 0) 0 (hz_dec kX12_house 0 rfl) rfl ?_
  refine hz_iconst (pc := 1) (v := nI 0) (hz_dec kX12_house 1 rfl) (by decide) ?_
  refine hz_puti (pc := 2) (hz_dec kX12_house 2 rfl) fo_X12_302 ft_X12_0 hO h8 (by omega) (by rw [hF.1]; decide) ?_
  have hf1 : mfr B [0, 89] [] M (va_up M B (.inr (12, (List.set fs 0 (.int (nI 0)))))) := (mfr.rf ⟨fs, hO, hF⟩).upO (k := 0) hO hF rfl rfl
  have hR1 : hmR (va_up M B (.inr (12, (List.set fs 0 (.int (nI 0)))))) z B H := hR.m0 hf1 hE0.upO ((fdB_of (va_up_self _ _ _) 89).trans ((List.getElem?_set_ne (by decide)).trans ((fdB_of hO 89).symm.trans x8)))
  generalize (va_up M B (.inr (12, (List.set fs 0 (.int (nI 0)))))) = M1 at *
  obtain ⟨hk1, hE1, ⟨n1, d1, q1⟩, hNd1, a51, a61, a71, a81⟩ := id hR1
  obtain ⟨⟨fs1, hO1, hF1⟩, -, -, -, -⟩ := id hk1
  have g88_1 : fs1[88]? = some (.int ((hoQ H).2)) := (fdB_of hO1 88).symm.trans q1.2.2.2.2.2.1
  refine hz_iloadn (pc := 5) 1 (hz_dec kX12_house 3 rfl) rfl ?_
  refine hz_swIn (pc := 6) (off := 70) (tgt := 76) (hz_dec kX12_house 4 rfl) (by decide) (by decide) rfl (by decide) ?_
  refine hz_aloadn (pc := 76) 0 (hz_dec kX12_house 17 rfl) rfl ?_
  refine hz_get (pc := 77) (v := .int ((hoQ H).2)) (hz_dec kX12_house 18 rfl) fo_X12_616 hO1 h8 (by omega) g88_1 ?_
  exact hz_iret (pc := 80) (hz_dec kX12_house 19 rfl) rfl ⟨rfl, rfl, hf1.S rfl, hR1⟩
set_option maxHeartbeats 4000000 in
set_option maxRecDepth 100000 in
theorem c_house5 {κ : hz_C} {z : Nat} {M : hz_M} {H : ho_H} (hz : 63 + 34 * (hoN H).length ≤ z) (hnn : (hoN H).length ≤ 6) (hT4 : (hoT H).length ≤ 4000) {ll : Nat} {fr kn : Int32} (hR : hcR M z H ll fr kn)  : hz_Mt κ xX11_house 0 0 0 [.ref 8, .int (nI 5)] z M (hcP M z H (.int (nI (hoT H).length)) H) := by
  refine hz_ent (lo := [(0, .ref 8), (1, .int (nI 5))]) (by decide) (Nat.le_of_ble_eq_true rfl) rfl ?_
  have hH := hR.1
  have hNs := hR.2.1
  obtain ⟨hO, hQ, hD⟩ := id hR.2.2.2.2.1
  obtain ⟨g53, h53⟩ := hR.2.2.2.2.2.1
  have hJ := hR.2.2.2.1
  obtain ⟨g56, h56, hT56⟩ := hR.2.2.2.2.2.2.2.2.2.1
  have hdf := hR.2.2.2.2.2.2.2.2.2.2
  have hck : ck_k M z := hJ.2.2.2.2.2.2.2.1
  have hcs : ck_s M := hJ.2.2.2.2.2.2.2.2.1
  have hz63 : 63 ≤ z := by omega
  have hrw := hQ.1.1
  rw [msB_len] at hrw
  obtain ⟨fB, gB, hfB, hgB, hxB⟩ := hQ.1.2.2.2
  have hql : (hoQ H).1.length ≤ 200 := by have q := hQ.1.2.1; rw [msB_len] at q; exact q
  obtain ⟨fN, hfN, hfNx⟩ := id hNs
  have hqe : gB (hoQ H).1.length = nI (msO (hoQ H).1 (hoQ H).1.length) := hxB.1 _ (by rw [msB_len]; exact Nat.le_refl _)
  refine hz_iloadn (pc := 0) 1 (hz_dec kX11_house 0 rfl) rfl ?_
  refine hz_swIn (pc := 1) (off := 106) (tgt := 107) (hz_dec kX11_house 1 rfl) (by decide) (by decide) rfl (by decide) ?_
  refine hz_aloadn (pc := 107) 0 (hz_dec kX11_house 29 rfl) rfl ?_
  refine hz_get (pc := 108) (hz_dec kX11_house 30 rfl) fo_X11_124 hH (by omega) (by omega) rfl ?_
  exact hz_iret (pc := 111) (hz_dec kX11_house 31 rfl) rfl (hcP.no hR _)
set_option maxHeartbeats 4000000 in
set_option maxRecDepth 100000 in
theorem c_rhouse5 {κ : hz_C} {z B : Nat} {M : hz_M} {H : ho_H} (hnn : (hoN H).length ≤ 6) (hT4 : (hoT H).length ≤ 4000) (hR : hmR M z B H)  : hz_Mt κ xX12_house 0 0 0 [.ref B, .int (nI 5)] z M (hmP M z B (.int (nI (hoT H).length)) H) := by
  refine hz_ent (lo := [(0, .ref B), (1, .int (nI 5))]) (by decide) (Nat.le_of_ble_eq_true rfl) rfl ?_
  obtain ⟨hk0_, hE0, ⟨m1, m2, m3⟩, hNd, a5, a6, a7, a8⟩ := id hR
  obtain ⟨⟨fs, hO, hF⟩, -, -, h8, hz⟩ := id hk0_
  obtain ⟨x1, x3, x4, x5, x6, x7, x8⟩ := id m3
  refine hz_aloadn (pc := 0) 0 (hz_dec kX12_house 0 rfl) rfl ?_
  refine hz_iconst (pc := 1) (v := nI 0) (hz_dec kX12_house 1 rfl) (by decide) ?_
  refine hz_puti (pc := 2) (hz_dec kX12_house 2 rfl) fo_X12_302 ft_X12_0 hO h8 (by omega) (by rw [hF.1]; decide) ?_
  have hf1 : mfr B [0, 89] [] M (va_up M B (.inr (12, (List.set fs 0 (.int (nI 0)))))) := (mfr.rf ⟨fs, hO, hF⟩).upO (k := 0) hO hF rfl rfl
  have hR1 : hmR (va_up M B (.inr (12, (List.set fs 0 (.int (nI 0)))))) z B H := hR.m0 hf1 hE0.upO ((fdB_of (va_up_self _ _ _) 89).trans ((List.getElem?_set_ne (by decide)).trans ((fdB_of hO 89).symm.trans x8)))
  generalize (va_up M B (.inr (12, (List.set fs 0 (.int (nI 0)))))) = M1 at *
  obtain ⟨hk1, hE1, ⟨n1, d1, q1⟩, hNd1, a51, a61, a71, a81⟩ := id hR1
  obtain ⟨⟨fs1, hO1, hF1⟩, -, -, -, -⟩ := id hk1
  have g95_1 : fs1[95]? = some (.int (nI ((hoT H).length))) := (fdB_of hO1 95).symm.trans a61
  refine hz_iloadn (pc := 5) 1 (hz_dec kX12_house 3 rfl) rfl ?_
  refine hz_swIn (pc := 6) (off := 75) (tgt := 81) (hz_dec kX12_house 4 rfl) (by decide) (by decide) rfl (by decide) ?_
  refine hz_aloadn (pc := 81) 0 (hz_dec kX12_house 20 rfl) rfl ?_
  refine hz_get (pc := 82) (v := .int (nI ((hoT H).length))) (hz_dec kX12_house 21 rfl) fo_X12_679 hO1 h8 (by omega) g95_1 ?_
  exact hz_iret (pc := 85) (hz_dec kX12_house 22 rfl) rfl ⟨rfl, rfl, hf1.S rfl, hR1⟩
set_option maxHeartbeats 4000000 in
set_option maxRecDepth 100000 in
theorem c_house6 {κ : hz_C} {z : Nat} {M : hz_M} {H : ho_H} (hz : 63 + 34 * (hoN H).length ≤ z) (hnn : (hoN H).length ≤ 6) (hT4 : (hoT H).length ≤ 4000) {ll : Nat} {fr kn : Int32} (hR : hcR M z H ll fr kn)  : hz_Mt κ xX11_house 0 0 0 [.ref 8, .int (nI 6)] z M (hcP M z H (.int (nI (hoI H).length)) H) := by
  refine hz_ent (lo := [(0, .ref 8), (1, .int (nI 6))]) (by decide) (Nat.le_of_ble_eq_true rfl) rfl ?_
  have hH := hR.1
  have hNs := hR.2.1
  obtain ⟨hO, hQ, hD⟩ := id hR.2.2.2.2.1
  obtain ⟨g53, h53⟩ := hR.2.2.2.2.2.1
  have hJ := hR.2.2.2.1
  obtain ⟨g56, h56, hT56⟩ := hR.2.2.2.2.2.2.2.2.2.1
  have hdf := hR.2.2.2.2.2.2.2.2.2.2
  have hck : ck_k M z := hJ.2.2.2.2.2.2.2.1
  have hcs : ck_s M := hJ.2.2.2.2.2.2.2.2.1
  have hz63 : 63 ≤ z := by omega
  have hrw := hQ.1.1
  rw [msB_len] at hrw
  obtain ⟨fB, gB, hfB, hgB, hxB⟩ := hQ.1.2.2.2
  have hql : (hoQ H).1.length ≤ 200 := by have q := hQ.1.2.1; rw [msB_len] at q; exact q
  obtain ⟨fN, hfN, hfNx⟩ := id hNs
  have hqe : gB (hoQ H).1.length = nI (msO (hoQ H).1 (hoQ H).1.length) := hxB.1 _ (by rw [msB_len]; exact Nat.le_refl _)
  refine hz_iloadn (pc := 0) 1 (hz_dec kX11_house 0 rfl) rfl ?_
  refine hz_swIn (pc := 1) (off := 111) (tgt := 112) (hz_dec kX11_house 1 rfl) (by decide) (by decide) rfl (by decide) ?_
  refine hz_aloadn (pc := 112) 0 (hz_dec kX11_house 32 rfl) rfl ?_
  refine hz_get (pc := 113) (hz_dec kX11_house 33 rfl) fo_X11_53 hH (by omega) (by omega) rfl ?_
  refine hz_get (pc := 116) (hz_dec kX11_house 34 rfl) fo_X11_152 hdf.1 (by omega) (by omega) rfl ?_
  exact hz_iret (pc := 119) (hz_dec kX11_house 35 rfl) rfl (hcP.no hR _)
set_option maxHeartbeats 4000000 in
set_option maxRecDepth 100000 in
theorem c_rhouse6 {κ : hz_C} {z B : Nat} {M : hz_M} {H : ho_H} (hnn : (hoN H).length ≤ 6) (hT4 : (hoT H).length ≤ 4000) (hR : hmR M z B H)  : hz_Mt κ xX12_house 0 0 0 [.ref B, .int (nI 6)] z M (hmP M z B (.int (nI (hoI H).length)) H) := by
  refine hz_ent (lo := [(0, .ref B), (1, .int (nI 6))]) (by decide) (Nat.le_of_ble_eq_true rfl) rfl ?_
  obtain ⟨hk0_, hE0, ⟨m1, m2, m3⟩, hNd, a5, a6, a7, a8⟩ := id hR
  obtain ⟨⟨fs, hO, hF⟩, -, -, h8, hz⟩ := id hk0_
  obtain ⟨x1, x3, x4, x5, x6, x7, x8⟩ := id m3
  refine hz_aloadn (pc := 0) 0 (hz_dec kX12_house 0 rfl) rfl ?_
  refine hz_iconst (pc := 1) (v := nI 0) (hz_dec kX12_house 1 rfl) (by decide) ?_
  refine hz_puti (pc := 2) (hz_dec kX12_house 2 rfl) fo_X12_302 ft_X12_0 hO h8 (by omega) (by rw [hF.1]; decide) ?_
  have hf1 : mfr B [0, 89] [] M (va_up M B (.inr (12, (List.set fs 0 (.int (nI 0)))))) := (mfr.rf ⟨fs, hO, hF⟩).upO (k := 0) hO hF rfl rfl
  have hR1 : hmR (va_up M B (.inr (12, (List.set fs 0 (.int (nI 0)))))) z B H := hR.m0 hf1 hE0.upO ((fdB_of (va_up_self _ _ _) 89).trans ((List.getElem?_set_ne (by decide)).trans ((fdB_of hO 89).symm.trans x8)))
  generalize (va_up M B (.inr (12, (List.set fs 0 (.int (nI 0)))))) = M1 at *
  obtain ⟨hk1, hE1, ⟨n1, d1, q1⟩, hNd1, a51, a61, a71, a81⟩ := id hR1
  obtain ⟨⟨fs1, hO1, hF1⟩, -, -, -, -⟩ := id hk1
  have g96_1 : fs1[96]? = some (.int (nI ((hoI H).length))) := (fdB_of hO1 96).symm.trans a71.1
  refine hz_iloadn (pc := 5) 1 (hz_dec kX12_house 3 rfl) rfl ?_
  refine hz_swIn (pc := 6) (off := 80) (tgt := 86) (hz_dec kX12_house 4 rfl) (by decide) (by decide) rfl (by decide) ?_
  refine hz_aloadn (pc := 86) 0 (hz_dec kX12_house 23 rfl) rfl ?_
  refine hz_get (pc := 87) (v := .int (nI ((hoI H).length))) (hz_dec kX12_house 24 rfl) fo_X12_682 hO1 h8 (by omega) g96_1 ?_
  exact hz_iret (pc := 90) (hz_dec kX12_house 25 rfl) rfl ⟨rfl, rfl, hf1.S rfl, hR1⟩
set_option maxHeartbeats 4000000 in
set_option maxRecDepth 100000 in
theorem c_house7 {κ : hz_C} {z : Nat} {M : hz_M} {H : ho_H} (hz : 63 + 34 * (hoN H).length ≤ z) (hnn : (hoN H).length ≤ 6) (hT4 : (hoT H).length ≤ 4000) {ll : Nat} {fr kn : Int32} (hR : hcR M z H ll fr kn)  : hz_Mt κ xX11_house 0 0 0 [.ref 8, .int (nI 7)] z M (hcP M z H (.int (nI (hoU H).length)) H) := by
  refine hz_ent (lo := [(0, .ref 8), (1, .int (nI 7))]) (by decide) (Nat.le_of_ble_eq_true rfl) rfl ?_
  have hH := hR.1
  have hNs := hR.2.1
  obtain ⟨hO, hQ, hD⟩ := id hR.2.2.2.2.1
  obtain ⟨g53, h53⟩ := hR.2.2.2.2.2.1
  have hJ := hR.2.2.2.1
  obtain ⟨g56, h56, hT56⟩ := hR.2.2.2.2.2.2.2.2.2.1
  have hdf := hR.2.2.2.2.2.2.2.2.2.2
  have hck : ck_k M z := hJ.2.2.2.2.2.2.2.1
  have hcs : ck_s M := hJ.2.2.2.2.2.2.2.2.1
  have hz63 : 63 ≤ z := by omega
  have hrw := hQ.1.1
  rw [msB_len] at hrw
  obtain ⟨fB, gB, hfB, hgB, hxB⟩ := hQ.1.2.2.2
  have hql : (hoQ H).1.length ≤ 200 := by have q := hQ.1.2.1; rw [msB_len] at q; exact q
  obtain ⟨fN, hfN, hfNx⟩ := id hNs
  have hqe : gB (hoQ H).1.length = nI (msO (hoQ H).1 (hoQ H).1.length) := hxB.1 _ (by rw [msB_len]; exact Nat.le_refl _)
  refine hz_iloadn (pc := 0) 1 (hz_dec kX11_house 0 rfl) rfl ?_
  refine hz_swIn (pc := 1) (off := 119) (tgt := 120) (hz_dec kX11_house 1 rfl) (by decide) (by decide) rfl (by decide) ?_
  refine hz_aloadn (pc := 120) 0 (hz_dec kX11_house 36 rfl) rfl ?_
  refine hz_get (pc := 121) (hz_dec kX11_house 37 rfl) fo_X11_53 hH (by omega) (by omega) rfl ?_
  refine hz_get (pc := 124) (hz_dec kX11_house 38 rfl) fo_X11_155 hdf.1 (by omega) (by omega) rfl ?_
  exact hz_iret (pc := 127) (hz_dec kX11_house 39 rfl) rfl (hcP.no hR _)
set_option maxHeartbeats 4000000 in
set_option maxRecDepth 100000 in
theorem c_rhouse7 {κ : hz_C} {z B : Nat} {M : hz_M} {H : ho_H} (hnn : (hoN H).length ≤ 6) (hT4 : (hoT H).length ≤ 4000) (hR : hmR M z B H)  : hz_Mt κ xX12_house 0 0 0 [.ref B, .int (nI 7)] z M (hmP M z B (.int (nI (hoU H).length)) H) := by
  refine hz_ent (lo := [(0, .ref B), (1, .int (nI 7))]) (by decide) (Nat.le_of_ble_eq_true rfl) rfl ?_
  obtain ⟨hk0_, hE0, ⟨m1, m2, m3⟩, hNd, a5, a6, a7, a8⟩ := id hR
  obtain ⟨⟨fs, hO, hF⟩, -, -, h8, hz⟩ := id hk0_
  obtain ⟨x1, x3, x4, x5, x6, x7, x8⟩ := id m3
  refine hz_aloadn (pc := 0) 0 (hz_dec kX12_house 0 rfl) rfl ?_
  refine hz_iconst (pc := 1) (v := nI 0) (hz_dec kX12_house 1 rfl) (by decide) ?_
  refine hz_puti (pc := 2) (hz_dec kX12_house 2 rfl) fo_X12_302 ft_X12_0 hO h8 (by omega) (by rw [hF.1]; decide) ?_
  have hf1 : mfr B [0, 89] [] M (va_up M B (.inr (12, (List.set fs 0 (.int (nI 0)))))) := (mfr.rf ⟨fs, hO, hF⟩).upO (k := 0) hO hF rfl rfl
  have hR1 : hmR (va_up M B (.inr (12, (List.set fs 0 (.int (nI 0)))))) z B H := hR.m0 hf1 hE0.upO ((fdB_of (va_up_self _ _ _) 89).trans ((List.getElem?_set_ne (by decide)).trans ((fdB_of hO 89).symm.trans x8)))
  generalize (va_up M B (.inr (12, (List.set fs 0 (.int (nI 0)))))) = M1 at *
  obtain ⟨hk1, hE1, ⟨n1, d1, q1⟩, hNd1, a51, a61, a71, a81⟩ := id hR1
  obtain ⟨⟨fs1, hO1, hF1⟩, -, -, -, -⟩ := id hk1
  have g100_1 : fs1[100]? = some (.int (nI ((hoU H).length))) := (fdB_of hO1 100).symm.trans a71.2.1
  refine hz_iloadn (pc := 5) 1 (hz_dec kX12_house 3 rfl) rfl ?_
  refine hz_swIn (pc := 6) (off := 85) (tgt := 91) (hz_dec kX12_house 4 rfl) (by decide) (by decide) rfl (by decide) ?_
  refine hz_aloadn (pc := 91) 0 (hz_dec kX12_house 26 rfl) rfl ?_
  refine hz_get (pc := 92) (v := .int (nI ((hoU H).length))) (hz_dec kX12_house 27 rfl) fo_X12_685 hO1 h8 (by omega) g100_1 ?_
  exact hz_iret (pc := 95) (hz_dec kX12_house 28 rfl) rfl ⟨rfl, rfl, hf1.S rfl, hR1⟩
set_option maxHeartbeats 4000000 in
set_option maxRecDepth 100000 in
theorem c_house8 {κ : hz_C} {z : Nat} {M : hz_M} {H : ho_H} (hz : 63 + 34 * (hoN H).length ≤ z) (hnn : (hoN H).length ≤ 6) (hT4 : (hoT H).length ≤ 4000) {ll : Nat} {fr kn : Int32} (hR : hcR M z H ll fr kn)  : hz_Mt κ xX11_house 0 0 0 [.ref 8, .int (nI 8)] z M (hcP M z H (.int (hoE H)) H) := by
  refine hz_ent (lo := [(0, .ref 8), (1, .int (nI 8))]) (by decide) (Nat.le_of_ble_eq_true rfl) rfl ?_
  have hH := hR.1
  have hNs := hR.2.1
  obtain ⟨hO, hQ, hD⟩ := id hR.2.2.2.2.1
  obtain ⟨g53, h53⟩ := hR.2.2.2.2.2.1
  have hJ := hR.2.2.2.1
  obtain ⟨g56, h56, hT56⟩ := hR.2.2.2.2.2.2.2.2.2.1
  have hdf := hR.2.2.2.2.2.2.2.2.2.2
  have hck : ck_k M z := hJ.2.2.2.2.2.2.2.1
  have hcs : ck_s M := hJ.2.2.2.2.2.2.2.2.1
  have hz63 : 63 ≤ z := by omega
  have hrw := hQ.1.1
  rw [msB_len] at hrw
  obtain ⟨fB, gB, hfB, hgB, hxB⟩ := hQ.1.2.2.2
  have hql : (hoQ H).1.length ≤ 200 := by have q := hQ.1.2.1; rw [msB_len] at q; exact q
  obtain ⟨fN, hfN, hfNx⟩ := id hNs
  have hqe : gB (hoQ H).1.length = nI (msO (hoQ H).1 (hoQ H).1.length) := hxB.1 _ (by rw [msB_len]; exact Nat.le_refl _)
  refine hz_iloadn (pc := 0) 1 (hz_dec kX11_house 0 rfl) rfl ?_
  refine hz_swIn (pc := 1) (off := 127) (tgt := 128) (hz_dec kX11_house 1 rfl) (by decide) (by decide) rfl (by decide) ?_
  refine hz_aloadn (pc := 128) 0 (hz_dec kX11_house 40 rfl) rfl ?_
  refine hz_get (pc := 129) (hz_dec kX11_house 41 rfl) fo_X11_77 hH (by omega) (by omega) rfl ?_
  exact hz_iret (pc := 132) (hz_dec kX11_house 42 rfl) rfl (hcP.no hR _)
set_option maxHeartbeats 4000000 in
set_option maxRecDepth 100000 in
theorem c_rhouse8 {κ : hz_C} {z B : Nat} {M : hz_M} {H : ho_H} (hnn : (hoN H).length ≤ 6) (hT4 : (hoT H).length ≤ 4000) (hR : hmR M z B H)  : hz_Mt κ xX12_house 0 0 0 [.ref B, .int (nI 8)] z M (hmP M z B (.int (hoE H)) H) := by
  refine hz_ent (lo := [(0, .ref B), (1, .int (nI 8))]) (by decide) (Nat.le_of_ble_eq_true rfl) rfl ?_
  obtain ⟨hk0_, hE0, ⟨m1, m2, m3⟩, hNd, a5, a6, a7, a8⟩ := id hR
  obtain ⟨⟨fs, hO, hF⟩, -, -, h8, hz⟩ := id hk0_
  obtain ⟨x1, x3, x4, x5, x6, x7, x8⟩ := id m3
  refine hz_aloadn (pc := 0) 0 (hz_dec kX12_house 0 rfl) rfl ?_
  refine hz_iconst (pc := 1) (v := nI 0) (hz_dec kX12_house 1 rfl) (by decide) ?_
  refine hz_puti (pc := 2) (hz_dec kX12_house 2 rfl) fo_X12_302 ft_X12_0 hO h8 (by omega) (by rw [hF.1]; decide) ?_
  have hf1 : mfr B [0, 89] [] M (va_up M B (.inr (12, (List.set fs 0 (.int (nI 0)))))) := (mfr.rf ⟨fs, hO, hF⟩).upO (k := 0) hO hF rfl rfl
  have hR1 : hmR (va_up M B (.inr (12, (List.set fs 0 (.int (nI 0)))))) z B H := hR.m0 hf1 hE0.upO ((fdB_of (va_up_self _ _ _) 89).trans ((List.getElem?_set_ne (by decide)).trans ((fdB_of hO 89).symm.trans x8)))
  generalize (va_up M B (.inr (12, (List.set fs 0 (.int (nI 0)))))) = M1 at *
  obtain ⟨hk1, hE1, ⟨n1, d1, q1⟩, hNd1, a51, a61, a71, a81⟩ := id hR1
  obtain ⟨⟨fs1, hO1, hF1⟩, -, -, -, -⟩ := id hk1
  have g103_1 : fs1[103]? = some (.int (hoE H)) := (fdB_of hO1 103).symm.trans a81
  refine hz_iloadn (pc := 5) 1 (hz_dec kX12_house 3 rfl) rfl ?_
  refine hz_swIn (pc := 6) (off := 90) (tgt := 96) (hz_dec kX12_house 4 rfl) (by decide) (by decide) rfl (by decide) ?_
  refine hz_aloadn (pc := 96) 0 (hz_dec kX12_house 29 rfl) rfl ?_
  refine hz_get (pc := 97) (v := .int (hoE H)) (hz_dec kX12_house 30 rfl) fo_X12_280 hO1 h8 (by omega) g103_1 ?_
  exact hz_iret (pc := 100) (hz_dec kX12_house 31 rfl) rfl ⟨rfl, rfl, hf1.S rfl, hR1⟩
set_option maxHeartbeats 4000000 in
set_option maxRecDepth 100000 in
theorem c_houseW {κ : hz_C} {z : Nat} {M : hz_M} {H : ho_H} (hz : 63 + 34 * (hoN H).length ≤ z) (hnn : (hoN H).length ≤ 6) (hT4 : (hoT H).length ≤ 4000) {ll : Nat} {fr kn : Int32} (hR : hcR M z H ll fr kn) {wh : Int32} (hw : wh.toInt < 0 ∨ 8 < wh.toInt) : hz_Mt κ xX11_house 0 0 0 [.ref 8, .int wh] z M (hcP M z H (.int (-1)) H) := by
  refine hz_ent (lo := [(0, .ref 8), (1, .int wh)]) (by decide) (Nat.le_of_ble_eq_true rfl) rfl ?_
  have hH := hR.1
  have hNs := hR.2.1
  obtain ⟨hO, hQ, hD⟩ := id hR.2.2.2.2.1
  obtain ⟨g53, h53⟩ := hR.2.2.2.2.2.1
  have hJ := hR.2.2.2.1
  obtain ⟨g56, h56, hT56⟩ := hR.2.2.2.2.2.2.2.2.2.1
  have hdf := hR.2.2.2.2.2.2.2.2.2.2
  have hck : ck_k M z := hJ.2.2.2.2.2.2.2.1
  have hcs : ck_s M := hJ.2.2.2.2.2.2.2.2.1
  have hz63 : 63 ≤ z := by omega
  refine hz_iloadn (pc := 0) 1 (hz_dec kX11_house 0 rfl) rfl ?_
  refine hz_swOut (pc := 1) (tgt := 133) (hz_dec kX11_house 1 rfl) hw (by decide) ?_
  refine hz_iconst (pc := 133) (v := (-1)) (hz_dec kX11_house 43 rfl) (by decide) ?_
  exact hz_iret (pc := 134) (hz_dec kX11_house 44 rfl) rfl (hcP.no hR _)
set_option maxHeartbeats 4000000 in
set_option maxRecDepth 100000 in
theorem c_rhouseW {κ : hz_C} {z B : Nat} {M : hz_M} {H : ho_H} (hnn : (hoN H).length ≤ 6) (hT4 : (hoT H).length ≤ 4000) (hR : hmR M z B H) {wh : Int32} (hw : wh.toInt < 0 ∨ 8 < wh.toInt) : hz_Mt κ xX12_house 0 0 0 [.ref B, .int wh] z M (hmP M z B (.int (-1)) H) := by
  refine hz_ent (lo := [(0, .ref B), (1, .int wh)]) (by decide) (Nat.le_of_ble_eq_true rfl) rfl ?_
  obtain ⟨hk0_, hE0, ⟨m1, m2, m3⟩, hNd, a5, a6, a7, a8⟩ := id hR
  obtain ⟨⟨fs, hO, hF⟩, -, -, h8, hz⟩ := id hk0_
  obtain ⟨x1, x3, x4, x5, x6, x7, x8⟩ := id m3
  refine hz_aloadn (pc := 0) 0 (hz_dec kX12_house 0 rfl) rfl ?_
  refine hz_iconst (pc := 1) (v := nI 0) (hz_dec kX12_house 1 rfl) (by decide) ?_
  refine hz_puti (pc := 2) (hz_dec kX12_house 2 rfl) fo_X12_302 ft_X12_0 hO h8 (by omega) (by rw [hF.1]; decide) ?_
  have hf1 : mfr B [0, 89] [] M (va_up M B (.inr (12, (List.set fs 0 (.int (nI 0)))))) := (mfr.rf ⟨fs, hO, hF⟩).upO (k := 0) hO hF rfl rfl
  have hR1 : hmR (va_up M B (.inr (12, (List.set fs 0 (.int (nI 0)))))) z B H := hR.m0 hf1 hE0.upO ((fdB_of (va_up_self _ _ _) 89).trans ((List.getElem?_set_ne (by decide)).trans ((fdB_of hO 89).symm.trans x8)))
  generalize (va_up M B (.inr (12, (List.set fs 0 (.int (nI 0)))))) = M1 at *
  obtain ⟨hk1, hE1, ⟨n1, d1, q1⟩, hNd1, a51, a61, a71, a81⟩ := id hR1
  obtain ⟨⟨fs1, hO1, hF1⟩, -, -, -, -⟩ := id hk1
  refine hz_iloadn (pc := 5) 1 (hz_dec kX12_house 3 rfl) rfl ?_
  refine hz_swOut (pc := 6) (tgt := 101) (hz_dec kX12_house 4 rfl) hw (by decide) ?_
  refine hz_iconst (pc := 101) (v := (-1)) (hz_dec kX12_house 32 rfl) (by decide) ?_
  exact hz_iret (pc := 102) (hz_dec kX12_house 33 rfl) rfl ⟨rfl, rfl, hf1.S rfl, hR1⟩
theorem cvX_all {M : hz_M} {B v x : Nat} {H : ho_H} {N : nd_N} (hnn : (hoN H).length ≤ 6) (hN : ndL (hoN H) v = N) (hx : x < (ksB N.1).length) (h54 : fdB M B 54 = some (.int (nI v))) (h55 : fdB M B 55 = some (.int (nI x))) (hc : mcR M B (coAt (ksB N.1) (enB (ksB N.1)) x)) (hv : v < (hoN H).length) : ∀ w, w < (hoN H).length → cvX M B w (ksB (ndL (hoN H) w).1) (enB (ksB (ndL (hoN H) w).1)) := by
  intro w hw
  refine ⟨nI v, nI x, h54, h55, fun c => ?_⟩
  have e : v = w := by have r := congrArg un c; rw [un_nI (by omega), un_nI (by omega)] at r; exact r
  subst e
  rw [hN]
  exact ⟨x, hx, rfl, hc⟩
theorem c_unR {κ : hz_C} {z B : Nat} {M : hz_M} {H : ho_H} (hR : hmR M z B H) (hnn : (hoN H).length ≤ 6) {v : Nat} (hv : v < (hoN H).length) {N : nd_N} (hN : ndL (hoN H) v = N) (hI : ksI N.1) : hz_Mt κ xX12_unspentBehind 3 0 0 [.ref B, .int (nI v), .int (nI (ksT N.1))] z M (fun r z2 M2 => none = r ∧ z = z2 ∧ mfr B [53, 54, 55] [43, 44, 45, 46, 47, 48, 49, 50] M M2 ∧ hmR M2 z B H ∧ mcR M2 B (coAt (ksB N.1) (enB (ksB N.1)) (ksT N.1))) := by
  obtain ⟨hk1, hE1, -, hNd1, -⟩ := id hR
  obtain ⟨hO_, -, -, h8, hz⟩ := id hk1
  have h0 : mdN M B v N := by have q := hNd1 v hv; rw [hN] at q; exact q
  obtain ⟨p1, p2, p3, p4, ⟨p5a, p5b, p5c⟩, p6, ⟨cn, cb, q1, q2, q3⟩, p9⟩ := h0.1
  obtain ⟨b1, b2, b3, b4, b5, b6, b7, b8⟩ := hI.1.p hI.2.1
  refine (c_unsp hO_ hE1 h8 hz (v := v) (by omega) (by omega) (by omega) p5a p5b b3 b4 p5c hI.2.1 (b6 _ hI.2.1) q1 q2 (fun c c2 => ?_)).weak ?_
  · obtain ⟨x, hx, e, hm⟩ := q3 c
    have ex : x = ksT N.1 := by have r := congrArg un (e.symm.trans c2); have r1 := hI.2.1; rw [un_nI (by omega), un_nI (by omega)] at r; exact r
    rw [ex] at hm
    exact hm
  · rintro r z2 M2 ⟨e1, e2, hf, ⟨g50, hg50⟩, ⟨g49, hg49⟩, hc, h54, h55⟩
    have hE2 : mdE M2 B := hE1.gen hf (A := [43, 44, 45, 46, 47, 48]) (E := [49, 50]) rfl hc.sho (sho_c (shoA (by decide) hg49) (sho_c (shoA (by decide) hg50) sho_n))
    exact ⟨e1, e2, hf, hR.cv hf hE2 (cvX_all hnn hN hI.2.1 h54 h55 hc hv) rfl rfl rfl rfl rfl rfl rfl rfl rfl rfl rfl rfl rfl rfl rfl rfl rfl rfl, hc⟩
set_option maxHeartbeats 4000000 in
set_option maxRecDepth 100000 in
theorem c_toldN {κ : hz_C} {z : Nat} {M : hz_M} {H : ho_H} (hz : 63 + 34 * (hoN H).length ≤ z) (hnn : (hoN H).length ≤ 6) (hT4 : (hoT H).length ≤ 4000) {ll : Nat} {fr kn : Int32} (hR : hcR M z H ll fr kn) {v : Int32} {wh : Int32} (hv : v < 0 ∨ ¬ v < nI (hoN H).length) : hz_Mt κ xX11_told 4 0 0 [.ref 8, .int v, .int wh] z M (hcP M z H (.int (-1)) H) := by
  refine hz_ent (lo := [(0, .ref 8), (1, .int v), (2, .int wh)]) (by decide) (Nat.le_of_ble_eq_true rfl) rfl ?_
  have hH := hR.1
  have hNs := hR.2.1
  obtain ⟨hO, hQ, hD⟩ := id hR.2.2.2.2.1
  obtain ⟨g53, h53⟩ := hR.2.2.2.2.2.1
  have hJ := hR.2.2.2.1
  obtain ⟨g56, h56, hT56⟩ := hR.2.2.2.2.2.2.2.2.2.1
  have hdf := hR.2.2.2.2.2.2.2.2.2.2
  have hck : ck_k M z := hJ.2.2.2.2.2.2.2.1
  have hcs : ck_s M := hJ.2.2.2.2.2.2.2.2.1
  have hz63 : 63 ≤ z := by omega
  refine hz_aloadn (pc := 0) 0 (hz_dec kX11_told 0 rfl) rfl ?_
  refine hz_iloadn (pc := 1) 1 (hz_dec kX11_told 1 rfl) rfl ?_
  refine hz_xV (pc := 2) (a := 8) (As := [.int v]) (st := []) (hz_dec kX11_told 2 rfl) co_X11_162 im_X11_nodeOf se_X11_nodeOf rfl hH (by omega) (by omega) (c_nOfN hz63 hH hnn hNs hv) rfl (by decide) ⟨Nat.le_refl _, Nat.le_refl _⟩ (Nat.le_of_ble_eq_true rfl) rfl ?_
  refine hz_astorenN (pc := 5) (i := 3) (lo2 := [(3, .null), (0, .ref 8), (1, .int v), (2, .int wh)]) (hz_dec kX11_told 3 rfl) rfl (by decide) rfl ?_
  refine hz_aloadnN (pc := 6) 0 (hz_dec kX11_told 4 rfl) rfl ?_
  refine hz_ifnullN (pc := 7) (tgt := 20) (hz_dec kX11_told 5 rfl) (by decide) ?_
  refine hz_iconst (pc := 20) (v := (-1)) (hz_dec kX11_told 11 rfl) (by decide) ?_
  exact hz_iret (pc := 21) (hz_dec kX11_told 12 rfl) rfl (hcP.no hR _)
set_option maxHeartbeats 4000000 in
set_option maxRecDepth 100000 in
theorem c_rtoldN {κ : hz_C} {z B : Nat} {M : hz_M} {H : ho_H} (hnn : (hoN H).length ≤ 6) (hT4 : (hoT H).length ≤ 4000) (hR : hmR M z B H) {v : Int32} {wh : Int32} (hv : v < 0 ∨ ¬ v < nI (hoN H).length) : hz_Mt κ xX12_told 4 0 0 [.ref B, .int v, .int wh] z M (hmP M z B (.int (-1)) H) := by
  refine hz_ent (lo := [(0, .ref B), (1, .int v), (2, .int wh)]) (by decide) (Nat.le_of_ble_eq_true rfl) rfl ?_
  obtain ⟨hk0_, hE0, ⟨m1, m2, m3⟩, hNd, a5, a6, a7, a8⟩ := id hR
  obtain ⟨⟨fs, hO, hF⟩, -, -, h8, hz⟩ := id hk0_
  obtain ⟨x1, x3, x4, x5, x6, x7, x8⟩ := id m3
  refine hz_aloadn (pc := 0) 0 (hz_dec kX12_told 0 rfl) rfl ?_
  refine hz_iconst (pc := 1) (v := nI 0) (hz_dec kX12_told 1 rfl) (by decide) ?_
  refine hz_puti (pc := 2) (hz_dec kX12_told 2 rfl) fo_X12_302 ft_X12_0 hO h8 (by omega) (by rw [hF.1]; decide) ?_
  have hf1 : mfr B [0, 89] [] M (va_up M B (.inr (12, (List.set fs 0 (.int (nI 0)))))) := (mfr.rf ⟨fs, hO, hF⟩).upO (k := 0) hO hF rfl rfl
  have hR1 : hmR (va_up M B (.inr (12, (List.set fs 0 (.int (nI 0)))))) z B H := hR.m0 hf1 hE0.upO ((fdB_of (va_up_self _ _ _) 89).trans ((List.getElem?_set_ne (by decide)).trans ((fdB_of hO 89).symm.trans x8)))
  generalize (va_up M B (.inr (12, (List.set fs 0 (.int (nI 0)))))) = M1 at *
  obtain ⟨hk1, hE1, ⟨n1, d1, q1⟩, hNd1, a51, a61, a71, a81⟩ := id hR1
  obtain ⟨⟨fs1, hO1, hF1⟩, -, -, -, -⟩ := id hk1
  refine hz_aloadn (pc := 5) 0 (hz_dec kX12_told 3 rfl) rfl ?_
  refine hz_iloadn (pc := 6) 1 (hz_dec kX12_told 4 rfl) rfl ?_
  refine hz_xV (pc := 7) (a := B) (As := [.int v]) (st := []) (hz_dec kX12_told 5 rfl) co_X12_692 im_X12_stateOf se_X12_stateOf rfl hO1 h8 (by omega) (c_stN hnn hR1 hv) rfl (by decide) ⟨Nat.le_refl _, Nat.le_refl _⟩ (Nat.le_of_ble_eq_true rfl) rfl ?_
  refine hz_istoren (pc := 10) (i := 3) (lo2 := [(3, .int (-1)), (0, .ref B), (1, .int v), (2, .int wh)]) (hz_dec kX12_told 6 rfl) rfl (by decide) rfl ?_
  refine hz_iloadn (pc := 11) 0 (hz_dec kX12_told 7 rfl) rfl ?_
  refine hz_iconst (pc := 12) (v := (-1)) (hz_dec kX12_told 8 rfl) (by decide) ?_
  refine hz_icmp_eq (pc := 13) (tgt := 26) (hz_dec kX12_told 9 rfl) (by decide) (fun hq1 => ?_) (fun hq1 => ?_)
  · skip
    refine hz_iconst (pc := 26) (v := (-1)) (hz_dec kX12_told 15 rfl) (by decide) ?_
    exact hz_iret (pc := 27) (hz_dec kX12_told 16 rfl) rfl ⟨rfl, rfl, hf1.S rfl, hR1⟩
  · skip
    exact absurd hq1 (by decide)
set_option maxHeartbeats 4000000 in
set_option maxRecDepth 100000 in
theorem c_toldW {κ : hz_C} {z : Nat} {M : hz_M} {H : ho_H} (hz : 63 + 34 * (hoN H).length ≤ z) (hnn : (hoN H).length ≤ 6) (hT4 : (hoT H).length ≤ 4000) {ll : Nat} {fr kn : Int32} (hR : hcR M z H ll fr kn) {v : Nat} (hv : v < (hoN H).length) {N : nd_N} (hN : ndL (hoN H) v = N) {wh : Int32} (hw : wh < 0 ∨ ¬ wh ≤ nI 10) : hz_Mt κ xX11_told 4 0 0 [.ref 8, .int (nI v), .int wh] z M (hcP M z H (.int (-1)) H) := by
  refine hz_ent (lo := [(0, .ref 8), (1, .int (nI v)), (2, .int wh)]) (by decide) (Nat.le_of_ble_eq_true rfl) rfl ?_
  have hH := hR.1
  have hNs := hR.2.1
  obtain ⟨hO, hQ, hD⟩ := id hR.2.2.2.2.1
  obtain ⟨g53, h53⟩ := hR.2.2.2.2.2.1
  have hJ := hR.2.2.2.1
  obtain ⟨g56, h56, hT56⟩ := hR.2.2.2.2.2.2.2.2.2.1
  have hdf := hR.2.2.2.2.2.2.2.2.2.2
  have hck : ck_k M z := hJ.2.2.2.2.2.2.2.1
  have hcs : ck_s M := hJ.2.2.2.2.2.2.2.2.1
  have hz63 : 63 ≤ z := by omega
  have hK := hR.2.2.1 v hv
  rw [hN] at hK
  obtain ⟨hn, ⟨gd, hgd, hgD⟩, hT, hC, hP, hL⟩ := id hK
  refine hz_aloadn (pc := 0) 0 (hz_dec kX11_told 0 rfl) rfl ?_
  refine hz_iloadn (pc := 1) 1 (hz_dec kX11_told 1 rfl) rfl ?_
  refine hz_xV (pc := 2) (a := 8) (As := [.int (nI v)]) (st := []) (hz_dec kX11_told 2 rfl) co_X11_162 im_X11_nodeOf se_X11_nodeOf rfl hH (by omega) (by omega) (c_nOf hz63 hH hnn hNs (b := v) hv) rfl (by decide) ⟨Nat.le_refl _, Nat.le_refl _⟩ (Nat.le_of_ble_eq_true rfl) rfl ?_
  refine hz_astoren (pc := 5) (i := 3) (lo2 := [(3, .ref (63 + 34 * v)), (0, .ref 8), (1, .int (nI v)), (2, .int wh)]) (hz_dec kX11_told 3 rfl) rfl (by decide) rfl ?_
  refine hz_aloadn (pc := 6) 0 (hz_dec kX11_told 4 rfl) rfl ?_
  refine hz_ifnull (pc := 7) (hz_dec kX11_told 5 rfl) ?_
  refine hz_iloadn (pc := 10) 3 (hz_dec kX11_told 6 rfl) rfl ?_
  refine hz_if_lt (pc := 11) (tgt := 20) (hz_dec kX11_told 7 rfl) (by decide) (fun h1 => ?_) (fun h1 => ?_)
  · skip
    refine hz_iconst (pc := 20) (v := (-1)) (hz_dec kX11_told 11 rfl) (by decide) ?_
    exact hz_iret (pc := 21) (hz_dec kX11_told 12 rfl) rfl (hcP.no hR _)
  · skip
    refine hz_iloadn (pc := 14) 3 (hz_dec kX11_told 8 rfl) rfl ?_
    refine hz_bipush (pc := 15) (v := nI 10) (hz_dec kX11_told 9 rfl) (by decide) ?_
    refine hz_icmp_le (pc := 17) (tgt := 22) (hz_dec kX11_told 10 rfl) (by decide) (fun h2 => ?_) (fun h2 => ?_)
    · skip
      exact absurd h2 (hw.resolve_left h1)
    · skip
      refine hz_iconst (pc := 20) (v := (-1)) (hz_dec kX11_told 11 rfl) (by decide) ?_
      exact hz_iret (pc := 21) (hz_dec kX11_told 12 rfl) rfl (hcP.no hR _)
set_option maxHeartbeats 4000000 in
set_option maxRecDepth 100000 in
theorem c_rtoldW {κ : hz_C} {z B : Nat} {M : hz_M} {H : ho_H} (hnn : (hoN H).length ≤ 6) (hT4 : (hoT H).length ≤ 4000) (hR : hmR M z B H) {v : Nat} (hv : v < (hoN H).length) {N : nd_N} (hN : ndL (hoN H) v = N) {wh : Int32} (hw : wh < 0 ∨ ¬ wh ≤ nI 10) : hz_Mt κ xX12_told 4 0 0 [.ref B, .int (nI v), .int wh] z M (hmP M z B (.int (-1)) H) := by
  refine hz_ent (lo := [(0, .ref B), (1, .int (nI v)), (2, .int wh)]) (by decide) (Nat.le_of_ble_eq_true rfl) rfl ?_
  obtain ⟨hk0_, hE0, ⟨m1, m2, m3⟩, hNd, a5, a6, a7, a8⟩ := id hR
  obtain ⟨⟨fs, hO, hF⟩, -, -, h8, hz⟩ := id hk0_
  obtain ⟨x1, x3, x4, x5, x6, x7, x8⟩ := id m3
  refine hz_aloadn (pc := 0) 0 (hz_dec kX12_told 0 rfl) rfl ?_
  refine hz_iconst (pc := 1) (v := nI 0) (hz_dec kX12_told 1 rfl) (by decide) ?_
  refine hz_puti (pc := 2) (hz_dec kX12_told 2 rfl) fo_X12_302 ft_X12_0 hO h8 (by omega) (by rw [hF.1]; decide) ?_
  have hf1 : mfr B [0, 89] [] M (va_up M B (.inr (12, (List.set fs 0 (.int (nI 0)))))) := (mfr.rf ⟨fs, hO, hF⟩).upO (k := 0) hO hF rfl rfl
  have hR1 : hmR (va_up M B (.inr (12, (List.set fs 0 (.int (nI 0)))))) z B H := hR.m0 hf1 hE0.upO ((fdB_of (va_up_self _ _ _) 89).trans ((List.getElem?_set_ne (by decide)).trans ((fdB_of hO 89).symm.trans x8)))
  generalize (va_up M B (.inr (12, (List.set fs 0 (.int (nI 0)))))) = M1 at *
  obtain ⟨hk1, hE1, ⟨n1, d1, q1⟩, hNd1, a51, a61, a71, a81⟩ := id hR1
  obtain ⟨⟨fs1, hO1, hF1⟩, -, -, -, -⟩ := id hk1
  refine hz_aloadn (pc := 5) 0 (hz_dec kX12_told 3 rfl) rfl ?_
  refine hz_iloadn (pc := 6) 1 (hz_dec kX12_told 4 rfl) rfl ?_
  refine hz_xV (pc := 7) (a := B) (As := [.int (nI v)]) (st := []) (hz_dec kX12_told 5 rfl) co_X12_692 im_X12_stateOf se_X12_stateOf rfl hO1 h8 (by omega) (c_st hnn hR1 hv) rfl (by decide) ⟨Nat.le_refl _, Nat.le_refl _⟩ (Nat.le_of_ble_eq_true rfl) rfl ?_
  refine hz_istoren (pc := 10) (i := 3) (lo2 := [(3, .int (stI (ndL (hoN H) v).2.1)), (0, .ref B), (1, .int (nI v)), (2, .int wh)]) (hz_dec kX12_told 6 rfl) rfl (by decide) rfl ?_
  refine hz_iloadn (pc := 11) 0 (hz_dec kX12_told 7 rfl) rfl ?_
  refine hz_iconst (pc := 12) (v := (-1)) (hz_dec kX12_told 8 rfl) (by decide) ?_
  refine hz_icmp_eq (pc := 13) (tgt := 26) (hz_dec kX12_told 9 rfl) (by decide) (fun h0 => ?_) (fun h0 => ?_)
  · skip
    exact absurd h0 (stI_b _)
  · skip
    refine hz_iloadn (pc := 16) 3 (hz_dec kX12_told 10 rfl) rfl ?_
    refine hz_if_lt (pc := 17) (tgt := 26) (hz_dec kX12_told 11 rfl) (by decide) (fun h1 => ?_) (fun h1 => ?_)
    · skip
      refine hz_iconst (pc := 26) (v := (-1)) (hz_dec kX12_told 15 rfl) (by decide) ?_
      exact hz_iret (pc := 27) (hz_dec kX12_told 16 rfl) rfl ⟨rfl, rfl, hf1.S rfl, hR1⟩
    · skip
      refine hz_iloadn (pc := 20) 3 (hz_dec kX12_told 12 rfl) rfl ?_
      refine hz_bipush (pc := 21) (v := nI 10) (hz_dec kX12_told 13 rfl) (by decide) ?_
      refine hz_icmp_le (pc := 23) (tgt := 28) (hz_dec kX12_told 14 rfl) (by decide) (fun h2 => ?_) (fun h2 => ?_)
      · skip
        exact absurd h2 (hw.resolve_left h1)
      · skip
        refine hz_iconst (pc := 26) (v := (-1)) (hz_dec kX12_told 15 rfl) (by decide) ?_
        exact hz_iret (pc := 27) (hz_dec kX12_told 16 rfl) rfl ⟨rfl, rfl, hf1.S rfl, hR1⟩
set_option maxHeartbeats 4000000 in
set_option maxRecDepth 100000 in
theorem c_toldU0 {κ : hz_C} {z : Nat} {M : hz_M} {H : ho_H} (hz : 63 + 34 * (hoN H).length ≤ z) (hnn : (hoN H).length ≤ 6) (hT4 : (hoT H).length ≤ 4000) {ll : Nat} {fr kn : Int32} (hR : hcR M z H ll fr kn) {v : Nat} (hv : v < (hoN H).length) {N : nd_N} (hN : ndL (hoN H) v = N) (hup : N.2.1 = true) (hI : ksI N.1) : hz_Mt κ xX11_told 4 0 0 [.ref 8, .int (nI v), .int (nI 0)] z M (hcP M z H (.int (nI 1)) H) := by
  refine hz_ent (lo := [(0, .ref 8), (1, .int (nI v)), (2, .int (nI 0))]) (by decide) (Nat.le_of_ble_eq_true rfl) rfl ?_
  have hH := hR.1
  have hNs := hR.2.1
  obtain ⟨hO, hQ, hD⟩ := id hR.2.2.2.2.1
  obtain ⟨g53, h53⟩ := hR.2.2.2.2.2.1
  have hJ := hR.2.2.2.1
  obtain ⟨g56, h56, hT56⟩ := hR.2.2.2.2.2.2.2.2.2.1
  have hdf := hR.2.2.2.2.2.2.2.2.2.2
  have hck : ck_k M z := hJ.2.2.2.2.2.2.2.1
  have hcs : ck_s M := hJ.2.2.2.2.2.2.2.2.1
  have hz63 : 63 ≤ z := by omega
  have hK := hR.2.2.1 v hv
  rw [hN] at hK
  obtain ⟨hn, ⟨gd, hgd, hgD⟩, hT, hC, hP, hL⟩ := id hK
  have hn : M (63 + 34 * v) = ndO (63 + 34 * v) (nI v) (nI 1) (nI (ksN N.1)) (pvI (ksF N.1)) N.2.2.1 N.2.2.2 := by rw [hup] at hn; exact hn
  have htO := hT.1
  have htR := hT.2.1.1
  rw [List.length_map] at htR
  obtain ⟨fb, fht, ftm, fbi, t5, t6, t7, t8, tX⟩ := id hT.2.2.2.1
  have hen : (enB (ksB N.1)).length = (ksB N.1).length := enB_len _
  have hcO := hC.1
  have hpO := hP.1.1
  rw [List.length_map] at hpO
  have hlO := hL.1.1
  have hb5 := hI.2.1
  have hb113 := hI.1.top.2.1
  refine hz_aloadn (pc := 0) 0 (hz_dec kX11_told 0 rfl) rfl ?_
  refine hz_iloadn (pc := 1) 1 (hz_dec kX11_told 1 rfl) rfl ?_
  refine hz_xV (pc := 2) (a := 8) (As := [.int (nI v)]) (st := []) (hz_dec kX11_told 2 rfl) co_X11_162 im_X11_nodeOf se_X11_nodeOf rfl hH (by omega) (by omega) (c_nOf hz63 hH hnn hNs (b := v) hv) rfl (by decide) ⟨Nat.le_refl _, Nat.le_refl _⟩ (Nat.le_of_ble_eq_true rfl) rfl ?_
  refine hz_astoren (pc := 5) (i := 3) (lo2 := [(3, .ref (63 + 34 * v)), (0, .ref 8), (1, .int (nI v)), (2, .int (nI 0))]) (hz_dec kX11_told 3 rfl) rfl (by decide) rfl ?_
  refine hz_aloadn (pc := 6) 0 (hz_dec kX11_told 4 rfl) rfl ?_
  refine hz_ifnull (pc := 7) (hz_dec kX11_told 5 rfl) ?_
  refine hz_iloadn (pc := 10) 3 (hz_dec kX11_told 6 rfl) rfl ?_
  refine hz_z_lt (pc := 11) (tgt := 20) (hz_dec kX11_told 7 rfl) (by decide) (by omega) ?_
  refine hz_iloadn (pc := 14) 3 (hz_dec kX11_told 8 rfl) rfl ?_
  refine hz_bipush (pc := 15) (v := nI 10) (hz_dec kX11_told 9 rfl) (by decide) ?_
  refine hz_n_le (pc := 17) (tgt := 22) (hz_dec kX11_told 10 rfl) (by decide) (by omega) (by omega) (fun hq2 => ?_) (fun hq2 => ?_)
  · skip
    refine hz_aloadn (pc := 22) 0 (hz_dec kX11_told 13 rfl) rfl ?_
    refine hz_get (pc := 23) (hz_dec kX11_told 14 rfl) fo_X11_166 hn (by omega) (by omega) rfl ?_
    refine hz_z_ne (pc := 26) (tgt := 43) (hz_dec kX11_told 15 rfl) (by decide) (by omega) (fun hq3 => ?_) (fun hq3 => ?_)
    · skip
      refine hz_iloadn (pc := 43) 3 (hz_dec kX11_told 24 rfl) rfl ?_
      refine hz_swIn (pc := 44) (off := 56) (tgt := 100) (hz_dec kX11_told 25 rfl) (by decide) (by decide) rfl (by decide) ?_
      refine hz_aloadn (pc := 100) 0 (hz_dec kX11_told 26 rfl) rfl ?_
      refine hz_get (pc := 101) (hz_dec kX11_told 27 rfl) fo_X11_166 hn (by omega) (by omega) rfl ?_
      refine hz_z_eq (pc := 104) (tgt := 111) (hz_dec kX11_told 28 rfl) (by decide) (by omega) (fun hq4 => ?_) (fun hq4 => ?_)
      · skip
        exact absurd hq4 (by decide)
      · skip
        refine hz_iconst (pc := 107) (v := nI 1) (hz_dec kX11_told 29 rfl) (by decide) ?_
        refine hz_goto (pc := 108) (tgt := 112) (hz_dec kX11_told 30 rfl) (by decide) ?_
        exact hz_iret (pc := 112) (hz_dec kX11_told 32 rfl) rfl (hcP.no hR _)
    · skip
      exact absurd hq3 (by decide)
  · skip
    exact absurd hq2 (by decide)
set_option maxHeartbeats 4000000 in
set_option maxRecDepth 100000 in
theorem c_rtoldU0 {κ : hz_C} {z B : Nat} {M : hz_M} {H : ho_H} (hnn : (hoN H).length ≤ 6) (hT4 : (hoT H).length ≤ 4000) (hR : hmR M z B H) {v : Nat} (hv : v < (hoN H).length) {N : nd_N} (hN : ndL (hoN H) v = N) (hup : N.2.1 = true) (hI : ksI N.1) : hz_Mt κ xX12_told 4 0 0 [.ref B, .int (nI v), .int (nI 0)] z M (hmP M z B (.int (nI 1)) H) := by
  refine hz_ent (lo := [(0, .ref B), (1, .int (nI v)), (2, .int (nI 0))]) (by decide) (Nat.le_of_ble_eq_true rfl) rfl ?_
  obtain ⟨hk0_, hE0, ⟨m1, m2, m3⟩, hNd, a5, a6, a7, a8⟩ := id hR
  obtain ⟨⟨fs, hO, hF⟩, -, -, h8, hz⟩ := id hk0_
  obtain ⟨x1, x3, x4, x5, x6, x7, x8⟩ := id m3
  have eSt : stI (ndL (hoN H) v).2.1 = nI 0 := by rw [hN, hup]; rfl
  refine hz_aloadn (pc := 0) 0 (hz_dec kX12_told 0 rfl) rfl ?_
  refine hz_iconst (pc := 1) (v := nI 0) (hz_dec kX12_told 1 rfl) (by decide) ?_
  refine hz_puti (pc := 2) (hz_dec kX12_told 2 rfl) fo_X12_302 ft_X12_0 hO h8 (by omega) (by rw [hF.1]; decide) ?_
  have hf1 : mfr B [0, 89] [] M (va_up M B (.inr (12, (List.set fs 0 (.int (nI 0)))))) := (mfr.rf ⟨fs, hO, hF⟩).upO (k := 0) hO hF rfl rfl
  have hR1 : hmR (va_up M B (.inr (12, (List.set fs 0 (.int (nI 0)))))) z B H := hR.m0 hf1 hE0.upO ((fdB_of (va_up_self _ _ _) 89).trans ((List.getElem?_set_ne (by decide)).trans ((fdB_of hO 89).symm.trans x8)))
  generalize (va_up M B (.inr (12, (List.set fs 0 (.int (nI 0)))))) = M1 at *
  obtain ⟨hk1, hE1, ⟨n1, d1, q1⟩, hNd1, a51, a61, a71, a81⟩ := id hR1
  obtain ⟨⟨fs1, hO1, hF1⟩, -, -, -, -⟩ := id hk1
  have h0 : mdN M1 B v N := by have q := hNd1 v hv; rw [hN] at q; exact q
  have hv6 : v < 6 := by omega
  have h01 : mnS M1 B v 1 N.1 (pvI (ksF N.1)) (ksP N.1) := by have q := h0.1; rw [hup] at q; exact q
  have h02 : orX (fA M1 B) v (mkO (ksL N.1)) := by have q := h0.2.1; rw [hup] at q; exact q
  obtain ⟨p1, p2, p3, p4, ⟨p5a, p5b, p5c⟩, p6, p7, p9⟩ := id h01
  have hbp := hI.1.p hI.2.1
  obtain ⟨b1, b2, b3, b4, b5, b6, b7, b8⟩ := id hbp
  refine hz_aloadn (pc := 5) 0 (hz_dec kX12_told 3 rfl) rfl ?_
  refine hz_iloadn (pc := 6) 1 (hz_dec kX12_told 4 rfl) rfl ?_
  refine hz_xV (pc := 7) (a := B) (As := [.int (nI v)]) (st := []) (hz_dec kX12_told 5 rfl) co_X12_692 im_X12_stateOf se_X12_stateOf rfl hO1 h8 (by omega) (c_st hnn hR1 hv) rfl (by decide) ⟨Nat.le_refl _, Nat.le_refl _⟩ (Nat.le_of_ble_eq_true rfl) rfl ?_
  refine hz_eqi (pc := 10) eSt ?_
  refine hz_istoren (pc := 10) (i := 3) (lo2 := [(3, .int (nI 0)), (0, .ref B), (1, .int (nI v)), (2, .int (nI 0))]) (hz_dec kX12_told 6 rfl) rfl (by decide) rfl ?_
  refine hz_iloadn (pc := 11) 0 (hz_dec kX12_told 7 rfl) rfl ?_
  refine hz_iconst (pc := 12) (v := (-1)) (hz_dec kX12_told 8 rfl) (by decide) ?_
  refine hz_icmp_eq (pc := 13) (tgt := 26) (hz_dec kX12_told 9 rfl) (by decide) (fun hq1 => ?_) (fun hq1 => ?_)
  · skip
    exact absurd hq1 (by decide)
  · skip
    refine hz_iloadn (pc := 16) 3 (hz_dec kX12_told 10 rfl) rfl ?_
    refine hz_z_lt (pc := 17) (tgt := 26) (hz_dec kX12_told 11 rfl) (by decide) (by omega) ?_
    refine hz_iloadn (pc := 20) 3 (hz_dec kX12_told 12 rfl) rfl ?_
    refine hz_bipush (pc := 21) (v := nI 10) (hz_dec kX12_told 13 rfl) (by decide) ?_
    refine hz_n_le (pc := 23) (tgt := 28) (hz_dec kX12_told 14 rfl) (by decide) (by omega) (by omega) (fun hq3 => ?_) (fun hq3 => ?_)
    · skip
      refine hz_iloadn (pc := 28) 0 (hz_dec kX12_told 17 rfl) rfl ?_
      refine hz_bipush (pc := 29) (v := (-2)) (hz_dec kX12_told 18 rfl) (by decide) ?_
      refine hz_icmp_ne (pc := 31) (tgt := 47) (hz_dec kX12_told 19 rfl) (by decide) (fun hq4 => ?_) (fun hq4 => ?_)
      · skip
        refine hz_iloadn (pc := 47) 3 (hz_dec kX12_told 27 rfl) rfl ?_
        refine hz_swIn (pc := 48) (off := 56) (tgt := 104) (hz_dec kX12_told 28 rfl) (by decide) (by decide) rfl (by decide) ?_
        refine hz_iloadn (pc := 104) 0 (hz_dec kX12_told 29 rfl) rfl ?_
        refine hz_z_ne (pc := 105) (tgt := 112) (hz_dec kX12_told 30 rfl) (by decide) (by omega) (fun hq5 => ?_) (fun hq5 => ?_)
        · skip
          exact absurd hq5 (by decide)
        · skip
          refine hz_iconst (pc := 108) (v := nI 1) (hz_dec kX12_told 31 rfl) (by decide) ?_
          refine hz_goto (pc := 109) (tgt := 113) (hz_dec kX12_told 32 rfl) (by decide) ?_
          exact hz_iret (pc := 113) (hz_dec kX12_told 34 rfl) rfl ⟨rfl, rfl, hf1.S rfl, hR1⟩
      · skip
        exact absurd hq4 (by decide)
    · skip
      exact absurd hq3 (by decide)
set_option maxHeartbeats 4000000 in
set_option maxRecDepth 100000 in
theorem c_toldU1 {κ : hz_C} {z : Nat} {M : hz_M} {H : ho_H} (hz : 63 + 34 * (hoN H).length ≤ z) (hnn : (hoN H).length ≤ 6) (hT4 : (hoT H).length ≤ 4000) {ll : Nat} {fr kn : Int32} (hR : hcR M z H ll fr kn) {v : Nat} (hv : v < (hoN H).length) {N : nd_N} (hN : ndL (hoN H) v = N) (hup : N.2.1 = true) (hI : ksI N.1) : hz_Mt κ xX11_told 4 0 0 [.ref 8, .int (nI v), .int (nI 1)] z M (hcP M z H (.int (nI (ksB N.1).length)) H) := by
  refine hz_ent (lo := [(0, .ref 8), (1, .int (nI v)), (2, .int (nI 1))]) (by decide) (Nat.le_of_ble_eq_true rfl) rfl ?_
  have hH := hR.1
  have hNs := hR.2.1
  obtain ⟨hO, hQ, hD⟩ := id hR.2.2.2.2.1
  obtain ⟨g53, h53⟩ := hR.2.2.2.2.2.1
  have hJ := hR.2.2.2.1
  obtain ⟨g56, h56, hT56⟩ := hR.2.2.2.2.2.2.2.2.2.1
  have hdf := hR.2.2.2.2.2.2.2.2.2.2
  have hck : ck_k M z := hJ.2.2.2.2.2.2.2.1
  have hcs : ck_s M := hJ.2.2.2.2.2.2.2.2.1
  have hz63 : 63 ≤ z := by omega
  have hK := hR.2.2.1 v hv
  rw [hN] at hK
  obtain ⟨hn, ⟨gd, hgd, hgD⟩, hT, hC, hP, hL⟩ := id hK
  have hn : M (63 + 34 * v) = ndO (63 + 34 * v) (nI v) (nI 1) (nI (ksN N.1)) (pvI (ksF N.1)) N.2.2.1 N.2.2.2 := by rw [hup] at hn; exact hn
  have htO := hT.1
  have htR := hT.2.1.1
  rw [List.length_map] at htR
  obtain ⟨fb, fht, ftm, fbi, t5, t6, t7, t8, tX⟩ := id hT.2.2.2.1
  have hen : (enB (ksB N.1)).length = (ksB N.1).length := enB_len _
  have hcO := hC.1
  have hpO := hP.1.1
  rw [List.length_map] at hpO
  have hlO := hL.1.1
  have hb5 := hI.2.1
  have hb113 := hI.1.top.2.1
  refine hz_aloadn (pc := 0) 0 (hz_dec kX11_told 0 rfl) rfl ?_
  refine hz_iloadn (pc := 1) 1 (hz_dec kX11_told 1 rfl) rfl ?_
  refine hz_xV (pc := 2) (a := 8) (As := [.int (nI v)]) (st := []) (hz_dec kX11_told 2 rfl) co_X11_162 im_X11_nodeOf se_X11_nodeOf rfl hH (by omega) (by omega) (c_nOf hz63 hH hnn hNs (b := v) hv) rfl (by decide) ⟨Nat.le_refl _, Nat.le_refl _⟩ (Nat.le_of_ble_eq_true rfl) rfl ?_
  refine hz_astoren (pc := 5) (i := 3) (lo2 := [(3, .ref (63 + 34 * v)), (0, .ref 8), (1, .int (nI v)), (2, .int (nI 1))]) (hz_dec kX11_told 3 rfl) rfl (by decide) rfl ?_
  refine hz_aloadn (pc := 6) 0 (hz_dec kX11_told 4 rfl) rfl ?_
  refine hz_ifnull (pc := 7) (hz_dec kX11_told 5 rfl) ?_
  refine hz_iloadn (pc := 10) 3 (hz_dec kX11_told 6 rfl) rfl ?_
  refine hz_z_lt (pc := 11) (tgt := 20) (hz_dec kX11_told 7 rfl) (by decide) (by omega) ?_
  refine hz_iloadn (pc := 14) 3 (hz_dec kX11_told 8 rfl) rfl ?_
  refine hz_bipush (pc := 15) (v := nI 10) (hz_dec kX11_told 9 rfl) (by decide) ?_
  refine hz_n_le (pc := 17) (tgt := 22) (hz_dec kX11_told 10 rfl) (by decide) (by omega) (by omega) (fun hq2 => ?_) (fun hq2 => ?_)
  · skip
    refine hz_aloadn (pc := 22) 0 (hz_dec kX11_told 13 rfl) rfl ?_
    refine hz_get (pc := 23) (hz_dec kX11_told 14 rfl) fo_X11_166 hn (by omega) (by omega) rfl ?_
    refine hz_z_ne (pc := 26) (tgt := 43) (hz_dec kX11_told 15 rfl) (by decide) (by omega) (fun hq3 => ?_) (fun hq3 => ?_)
    · skip
      refine hz_iloadn (pc := 43) 3 (hz_dec kX11_told 24 rfl) rfl ?_
      refine hz_swIn (pc := 44) (off := 69) (tgt := 113) (hz_dec kX11_told 25 rfl) (by decide) (by decide) rfl (by decide) ?_
      refine hz_aloadn (pc := 113) 0 (hz_dec kX11_told 33 rfl) rfl ?_
      refine hz_get (pc := 114) (hz_dec kX11_told 34 rfl) fo_X11_104 hn (by omega) (by omega) rfl ?_
      refine hz_get (pc := 117) (hz_dec kX11_told 35 rfl) fo_X11_217 htO (by omega) (by omega) rfl ?_
      refine hz_get (pc := 120) (hz_dec kX11_told 36 rfl) fo_X11_220 htR (by omega) (by omega) rfl ?_
      exact hz_iret (pc := 123) (hz_dec kX11_told 37 rfl) rfl (hcP.no hR _)
    · skip
      exact absurd hq3 (by decide)
  · skip
    exact absurd hq2 (by decide)
set_option maxHeartbeats 4000000 in
set_option maxRecDepth 100000 in
theorem c_rtoldU1 {κ : hz_C} {z B : Nat} {M : hz_M} {H : ho_H} (hnn : (hoN H).length ≤ 6) (hT4 : (hoT H).length ≤ 4000) (hR : hmR M z B H) {v : Nat} (hv : v < (hoN H).length) {N : nd_N} (hN : ndL (hoN H) v = N) (hup : N.2.1 = true) (hI : ksI N.1) : hz_Mt κ xX12_told 4 0 0 [.ref B, .int (nI v), .int (nI 1)] z M (hmP M z B (.int (nI (ksB N.1).length)) H) := by
  refine hz_ent (lo := [(0, .ref B), (1, .int (nI v)), (2, .int (nI 1))]) (by decide) (Nat.le_of_ble_eq_true rfl) rfl ?_
  obtain ⟨hk0_, hE0, ⟨m1, m2, m3⟩, hNd, a5, a6, a7, a8⟩ := id hR
  obtain ⟨⟨fs, hO, hF⟩, -, -, h8, hz⟩ := id hk0_
  obtain ⟨x1, x3, x4, x5, x6, x7, x8⟩ := id m3
  have eSt : stI (ndL (hoN H) v).2.1 = nI 0 := by rw [hN, hup]; rfl
  refine hz_aloadn (pc := 0) 0 (hz_dec kX12_told 0 rfl) rfl ?_
  refine hz_iconst (pc := 1) (v := nI 0) (hz_dec kX12_told 1 rfl) (by decide) ?_
  refine hz_puti (pc := 2) (hz_dec kX12_told 2 rfl) fo_X12_302 ft_X12_0 hO h8 (by omega) (by rw [hF.1]; decide) ?_
  have hf1 : mfr B [0, 89] [] M (va_up M B (.inr (12, (List.set fs 0 (.int (nI 0)))))) := (mfr.rf ⟨fs, hO, hF⟩).upO (k := 0) hO hF rfl rfl
  have hR1 : hmR (va_up M B (.inr (12, (List.set fs 0 (.int (nI 0)))))) z B H := hR.m0 hf1 hE0.upO ((fdB_of (va_up_self _ _ _) 89).trans ((List.getElem?_set_ne (by decide)).trans ((fdB_of hO 89).symm.trans x8)))
  generalize (va_up M B (.inr (12, (List.set fs 0 (.int (nI 0)))))) = M1 at *
  obtain ⟨hk1, hE1, ⟨n1, d1, q1⟩, hNd1, a51, a61, a71, a81⟩ := id hR1
  obtain ⟨⟨fs1, hO1, hF1⟩, -, -, -, -⟩ := id hk1
  have h0 : mdN M1 B v N := by have q := hNd1 v hv; rw [hN] at q; exact q
  have hv6 : v < 6 := by omega
  have h01 : mnS M1 B v 1 N.1 (pvI (ksF N.1)) (ksP N.1) := by have q := h0.1; rw [hup] at q; exact q
  have h02 : orX (fA M1 B) v (mkO (ksL N.1)) := by have q := h0.2.1; rw [hup] at q; exact q
  obtain ⟨p1, p2, p3, p4, ⟨p5a, p5b, p5c⟩, p6, p7, p9⟩ := id h01
  have hbp := hI.1.p hI.2.1
  obtain ⟨b1, b2, b3, b4, b5, b6, b7, b8⟩ := id hbp
  refine hz_aloadn (pc := 5) 0 (hz_dec kX12_told 3 rfl) rfl ?_
  refine hz_iloadn (pc := 6) 1 (hz_dec kX12_told 4 rfl) rfl ?_
  refine hz_xV (pc := 7) (a := B) (As := [.int (nI v)]) (st := []) (hz_dec kX12_told 5 rfl) co_X12_692 im_X12_stateOf se_X12_stateOf rfl hO1 h8 (by omega) (c_st hnn hR1 hv) rfl (by decide) ⟨Nat.le_refl _, Nat.le_refl _⟩ (Nat.le_of_ble_eq_true rfl) rfl ?_
  refine hz_eqi (pc := 10) eSt ?_
  refine hz_istoren (pc := 10) (i := 3) (lo2 := [(3, .int (nI 0)), (0, .ref B), (1, .int (nI v)), (2, .int (nI 1))]) (hz_dec kX12_told 6 rfl) rfl (by decide) rfl ?_
  refine hz_iloadn (pc := 11) 0 (hz_dec kX12_told 7 rfl) rfl ?_
  refine hz_iconst (pc := 12) (v := (-1)) (hz_dec kX12_told 8 rfl) (by decide) ?_
  refine hz_icmp_eq (pc := 13) (tgt := 26) (hz_dec kX12_told 9 rfl) (by decide) (fun hq1 => ?_) (fun hq1 => ?_)
  · skip
    exact absurd hq1 (by decide)
  · skip
    refine hz_iloadn (pc := 16) 3 (hz_dec kX12_told 10 rfl) rfl ?_
    refine hz_z_lt (pc := 17) (tgt := 26) (hz_dec kX12_told 11 rfl) (by decide) (by omega) ?_
    refine hz_iloadn (pc := 20) 3 (hz_dec kX12_told 12 rfl) rfl ?_
    refine hz_bipush (pc := 21) (v := nI 10) (hz_dec kX12_told 13 rfl) (by decide) ?_
    refine hz_n_le (pc := 23) (tgt := 28) (hz_dec kX12_told 14 rfl) (by decide) (by omega) (by omega) (fun hq3 => ?_) (fun hq3 => ?_)
    · skip
      refine hz_iloadn (pc := 28) 0 (hz_dec kX12_told 17 rfl) rfl ?_
      refine hz_bipush (pc := 29) (v := (-2)) (hz_dec kX12_told 18 rfl) (by decide) ?_
      refine hz_icmp_ne (pc := 31) (tgt := 47) (hz_dec kX12_told 19 rfl) (by decide) (fun hq4 => ?_) (fun hq4 => ?_)
      · skip
        refine hz_iloadn (pc := 47) 3 (hz_dec kX12_told 27 rfl) rfl ?_
        refine hz_swIn (pc := 48) (off := 66) (tgt := 114) (hz_dec kX12_told 28 rfl) (by decide) (by decide) rfl (by decide) ?_
        refine hz_aloadn (pc := 114) 1 (hz_dec kX12_told 35 rfl) rfl ?_
        refine hz_get (pc := 115) (v := .ref (B + 20)) (hz_dec kX12_told 36 rfl) fo_X12_71 hO1 h8 (by omega) (hF1.2 22 (by decide) (by decide)) ?_
        refine hz_iloadn (pc := 118) 2 (hz_dec kX12_told 37 rfl) rfl ?_
        refine hz_iald (pc := 119) (j := v) (hz_dec kX12_told 38 rfl) hE1.a20 (by omega) (by omega) rfl (by omega) (by decide) ?_
        refine hz_eqi (pc := 120) p5b.1 ?_
        exact hz_iret (pc := 120) (hz_dec kX12_told 39 rfl) rfl ⟨rfl, rfl, hf1.S rfl, hR1⟩
      · skip
        exact absurd hq4 (by decide)
    · skip
      exact absurd hq3 (by decide)
set_option maxHeartbeats 4000000 in
set_option maxRecDepth 100000 in
theorem c_toldU2 {κ : hz_C} {z : Nat} {M : hz_M} {H : ho_H} (hz : 63 + 34 * (hoN H).length ≤ z) (hnn : (hoN H).length ≤ 6) (hT4 : (hoT H).length ≤ 4000) {ll : Nat} {fr kn : Int32} (hR : hcR M z H ll fr kn) {v : Nat} (hv : v < (hoN H).length) {N : nd_N} (hN : ndL (hoN H) v = N) (hup : N.2.1 = true) (hI : ksI N.1) : hz_Mt κ xX11_told 4 0 0 [.ref 8, .int (nI v), .int (nI 2)] z M (hcP M z H (.int (nI (ksT N.1))) H) := by
  refine hz_ent (lo := [(0, .ref 8), (1, .int (nI v)), (2, .int (nI 2))]) (by decide) (Nat.le_of_ble_eq_true rfl) rfl ?_
  have hH := hR.1
  have hNs := hR.2.1
  obtain ⟨hO, hQ, hD⟩ := id hR.2.2.2.2.1
  obtain ⟨g53, h53⟩ := hR.2.2.2.2.2.1
  have hJ := hR.2.2.2.1
  obtain ⟨g56, h56, hT56⟩ := hR.2.2.2.2.2.2.2.2.2.1
  have hdf := hR.2.2.2.2.2.2.2.2.2.2
  have hck : ck_k M z := hJ.2.2.2.2.2.2.2.1
  have hcs : ck_s M := hJ.2.2.2.2.2.2.2.2.1
  have hz63 : 63 ≤ z := by omega
  have hK := hR.2.2.1 v hv
  rw [hN] at hK
  obtain ⟨hn, ⟨gd, hgd, hgD⟩, hT, hC, hP, hL⟩ := id hK
  have hn : M (63 + 34 * v) = ndO (63 + 34 * v) (nI v) (nI 1) (nI (ksN N.1)) (pvI (ksF N.1)) N.2.2.1 N.2.2.2 := by rw [hup] at hn; exact hn
  have htO := hT.1
  have htR := hT.2.1.1
  rw [List.length_map] at htR
  obtain ⟨fb, fht, ftm, fbi, t5, t6, t7, t8, tX⟩ := id hT.2.2.2.1
  have hen : (enB (ksB N.1)).length = (ksB N.1).length := enB_len _
  have hcO := hC.1
  have hpO := hP.1.1
  rw [List.length_map] at hpO
  have hlO := hL.1.1
  have hb5 := hI.2.1
  have hb113 := hI.1.top.2.1
  refine hz_aloadn (pc := 0) 0 (hz_dec kX11_told 0 rfl) rfl ?_
  refine hz_iloadn (pc := 1) 1 (hz_dec kX11_told 1 rfl) rfl ?_
  refine hz_xV (pc := 2) (a := 8) (As := [.int (nI v)]) (st := []) (hz_dec kX11_told 2 rfl) co_X11_162 im_X11_nodeOf se_X11_nodeOf rfl hH (by omega) (by omega) (c_nOf hz63 hH hnn hNs (b := v) hv) rfl (by decide) ⟨Nat.le_refl _, Nat.le_refl _⟩ (Nat.le_of_ble_eq_true rfl) rfl ?_
  refine hz_astoren (pc := 5) (i := 3) (lo2 := [(3, .ref (63 + 34 * v)), (0, .ref 8), (1, .int (nI v)), (2, .int (nI 2))]) (hz_dec kX11_told 3 rfl) rfl (by decide) rfl ?_
  refine hz_aloadn (pc := 6) 0 (hz_dec kX11_told 4 rfl) rfl ?_
  refine hz_ifnull (pc := 7) (hz_dec kX11_told 5 rfl) ?_
  refine hz_iloadn (pc := 10) 3 (hz_dec kX11_told 6 rfl) rfl ?_
  refine hz_z_lt (pc := 11) (tgt := 20) (hz_dec kX11_told 7 rfl) (by decide) (by omega) ?_
  refine hz_iloadn (pc := 14) 3 (hz_dec kX11_told 8 rfl) rfl ?_
  refine hz_bipush (pc := 15) (v := nI 10) (hz_dec kX11_told 9 rfl) (by decide) ?_
  refine hz_n_le (pc := 17) (tgt := 22) (hz_dec kX11_told 10 rfl) (by decide) (by omega) (by omega) (fun hq2 => ?_) (fun hq2 => ?_)
  · skip
    refine hz_aloadn (pc := 22) 0 (hz_dec kX11_told 13 rfl) rfl ?_
    refine hz_get (pc := 23) (hz_dec kX11_told 14 rfl) fo_X11_166 hn (by omega) (by omega) rfl ?_
    refine hz_z_ne (pc := 26) (tgt := 43) (hz_dec kX11_told 15 rfl) (by decide) (by omega) (fun hq3 => ?_) (fun hq3 => ?_)
    · skip
      refine hz_iloadn (pc := 43) 3 (hz_dec kX11_told 24 rfl) rfl ?_
      refine hz_swIn (pc := 44) (off := 80) (tgt := 124) (hz_dec kX11_told 25 rfl) (by decide) (by decide) rfl (by decide) ?_
      refine hz_aloadn (pc := 124) 0 (hz_dec kX11_told 38 rfl) rfl ?_
      refine hz_get (pc := 125) (hz_dec kX11_told 39 rfl) fo_X11_104 hn (by omega) (by omega) rfl ?_
      refine hz_get (pc := 128) (hz_dec kX11_told 40 rfl) fo_X11_235 htO (by omega) (by omega) rfl ?_
      exact hz_iret (pc := 131) (hz_dec kX11_told 41 rfl) rfl (hcP.no hR _)
    · skip
      exact absurd hq3 (by decide)
  · skip
    exact absurd hq2 (by decide)
set_option maxHeartbeats 4000000 in
set_option maxRecDepth 100000 in
theorem c_rtoldU2 {κ : hz_C} {z B : Nat} {M : hz_M} {H : ho_H} (hnn : (hoN H).length ≤ 6) (hT4 : (hoT H).length ≤ 4000) (hR : hmR M z B H) {v : Nat} (hv : v < (hoN H).length) {N : nd_N} (hN : ndL (hoN H) v = N) (hup : N.2.1 = true) (hI : ksI N.1) : hz_Mt κ xX12_told 4 0 0 [.ref B, .int (nI v), .int (nI 2)] z M (hmP M z B (.int (nI (ksT N.1))) H) := by
  refine hz_ent (lo := [(0, .ref B), (1, .int (nI v)), (2, .int (nI 2))]) (by decide) (Nat.le_of_ble_eq_true rfl) rfl ?_
  obtain ⟨hk0_, hE0, ⟨m1, m2, m3⟩, hNd, a5, a6, a7, a8⟩ := id hR
  obtain ⟨⟨fs, hO, hF⟩, -, -, h8, hz⟩ := id hk0_
  obtain ⟨x1, x3, x4, x5, x6, x7, x8⟩ := id m3
  have eSt : stI (ndL (hoN H) v).2.1 = nI 0 := by rw [hN, hup]; rfl
  refine hz_aloadn (pc := 0) 0 (hz_dec kX12_told 0 rfl) rfl ?_
  refine hz_iconst (pc := 1) (v := nI 0) (hz_dec kX12_told 1 rfl) (by decide) ?_
  refine hz_puti (pc := 2) (hz_dec kX12_told 2 rfl) fo_X12_302 ft_X12_0 hO h8 (by omega) (by rw [hF.1]; decide) ?_
  have hf1 : mfr B [0, 89] [] M (va_up M B (.inr (12, (List.set fs 0 (.int (nI 0)))))) := (mfr.rf ⟨fs, hO, hF⟩).upO (k := 0) hO hF rfl rfl
  have hR1 : hmR (va_up M B (.inr (12, (List.set fs 0 (.int (nI 0)))))) z B H := hR.m0 hf1 hE0.upO ((fdB_of (va_up_self _ _ _) 89).trans ((List.getElem?_set_ne (by decide)).trans ((fdB_of hO 89).symm.trans x8)))
  generalize (va_up M B (.inr (12, (List.set fs 0 (.int (nI 0)))))) = M1 at *
  obtain ⟨hk1, hE1, ⟨n1, d1, q1⟩, hNd1, a51, a61, a71, a81⟩ := id hR1
  obtain ⟨⟨fs1, hO1, hF1⟩, -, -, -, -⟩ := id hk1
  have h0 : mdN M1 B v N := by have q := hNd1 v hv; rw [hN] at q; exact q
  have hv6 : v < 6 := by omega
  have h01 : mnS M1 B v 1 N.1 (pvI (ksF N.1)) (ksP N.1) := by have q := h0.1; rw [hup] at q; exact q
  have h02 : orX (fA M1 B) v (mkO (ksL N.1)) := by have q := h0.2.1; rw [hup] at q; exact q
  obtain ⟨p1, p2, p3, p4, ⟨p5a, p5b, p5c⟩, p6, p7, p9⟩ := id h01
  have hbp := hI.1.p hI.2.1
  obtain ⟨b1, b2, b3, b4, b5, b6, b7, b8⟩ := id hbp
  refine hz_aloadn (pc := 5) 0 (hz_dec kX12_told 3 rfl) rfl ?_
  refine hz_iloadn (pc := 6) 1 (hz_dec kX12_told 4 rfl) rfl ?_
  refine hz_xV (pc := 7) (a := B) (As := [.int (nI v)]) (st := []) (hz_dec kX12_told 5 rfl) co_X12_692 im_X12_stateOf se_X12_stateOf rfl hO1 h8 (by omega) (c_st hnn hR1 hv) rfl (by decide) ⟨Nat.le_refl _, Nat.le_refl _⟩ (Nat.le_of_ble_eq_true rfl) rfl ?_
  refine hz_eqi (pc := 10) eSt ?_
  refine hz_istoren (pc := 10) (i := 3) (lo2 := [(3, .int (nI 0)), (0, .ref B), (1, .int (nI v)), (2, .int (nI 2))]) (hz_dec kX12_told 6 rfl) rfl (by decide) rfl ?_
  refine hz_iloadn (pc := 11) 0 (hz_dec kX12_told 7 rfl) rfl ?_
  refine hz_iconst (pc := 12) (v := (-1)) (hz_dec kX12_told 8 rfl) (by decide) ?_
  refine hz_icmp_eq (pc := 13) (tgt := 26) (hz_dec kX12_told 9 rfl) (by decide) (fun hq1 => ?_) (fun hq1 => ?_)
  · skip
    exact absurd hq1 (by decide)
  · skip
    refine hz_iloadn (pc := 16) 3 (hz_dec kX12_told 10 rfl) rfl ?_
    refine hz_z_lt (pc := 17) (tgt := 26) (hz_dec kX12_told 11 rfl) (by decide) (by omega) ?_
    refine hz_iloadn (pc := 20) 3 (hz_dec kX12_told 12 rfl) rfl ?_
    refine hz_bipush (pc := 21) (v := nI 10) (hz_dec kX12_told 13 rfl) (by decide) ?_
    refine hz_n_le (pc := 23) (tgt := 28) (hz_dec kX12_told 14 rfl) (by decide) (by omega) (by omega) (fun hq3 => ?_) (fun hq3 => ?_)
    · skip
      refine hz_iloadn (pc := 28) 0 (hz_dec kX12_told 17 rfl) rfl ?_
      refine hz_bipush (pc := 29) (v := (-2)) (hz_dec kX12_told 18 rfl) (by decide) ?_
      refine hz_icmp_ne (pc := 31) (tgt := 47) (hz_dec kX12_told 19 rfl) (by decide) (fun hq4 => ?_) (fun hq4 => ?_)
      · skip
        refine hz_iloadn (pc := 47) 3 (hz_dec kX12_told 27 rfl) rfl ?_
        refine hz_swIn (pc := 48) (off := 73) (tgt := 121) (hz_dec kX12_told 28 rfl) (by decide) (by decide) rfl (by decide) ?_
        refine hz_aloadn (pc := 121) 1 (hz_dec kX12_told 40 rfl) rfl ?_
        refine hz_get (pc := 122) (v := .ref (B + 21)) (hz_dec kX12_told 41 rfl) fo_X12_74 hO1 h8 (by omega) (hF1.2 23 (by decide) (by decide)) ?_
        refine hz_iloadn (pc := 125) 2 (hz_dec kX12_told 42 rfl) rfl ?_
        refine hz_iald (pc := 126) (j := v) (hz_dec kX12_told 43 rfl) hE1.a21 (by omega) (by omega) rfl (by omega) (by decide) ?_
        refine hz_eqi (pc := 127) p5b.2.1 ?_
        exact hz_iret (pc := 127) (hz_dec kX12_told 44 rfl) rfl ⟨rfl, rfl, hf1.S rfl, hR1⟩
      · skip
        exact absurd hq4 (by decide)
    · skip
      exact absurd hq3 (by decide)
set_option maxHeartbeats 4000000 in
set_option maxRecDepth 100000 in
theorem c_toldU3 {κ : hz_C} {z : Nat} {M : hz_M} {H : ho_H} (hz : 63 + 34 * (hoN H).length ≤ z) (hnn : (hoN H).length ≤ 6) (hT4 : (hoT H).length ≤ 4000) {ll : Nat} {fr kn : Int32} (hR : hcR M z H ll fr kn) {v : Nat} (hv : v < (hoN H).length) {N : nd_N} (hN : ndL (hoN H) v = N) (hup : N.2.1 = true) (hI : ksI N.1) : hz_Mt κ xX11_told 4 0 0 [.ref 8, .int (nI v), .int (nI 3)] z M (hcP M z H (.int (nI (eH (enB (ksB N.1)) (ksT N.1)))) H) := by
  refine hz_ent (lo := [(0, .ref 8), (1, .int (nI v)), (2, .int (nI 3))]) (by decide) (Nat.le_of_ble_eq_true rfl) rfl ?_
  have hH := hR.1
  have hNs := hR.2.1
  obtain ⟨hO, hQ, hD⟩ := id hR.2.2.2.2.1
  obtain ⟨g53, h53⟩ := hR.2.2.2.2.2.1
  have hJ := hR.2.2.2.1
  obtain ⟨g56, h56, hT56⟩ := hR.2.2.2.2.2.2.2.2.2.1
  have hdf := hR.2.2.2.2.2.2.2.2.2.2
  have hck : ck_k M z := hJ.2.2.2.2.2.2.2.1
  have hcs : ck_s M := hJ.2.2.2.2.2.2.2.2.1
  have hz63 : 63 ≤ z := by omega
  have hK := hR.2.2.1 v hv
  rw [hN] at hK
  obtain ⟨hn, ⟨gd, hgd, hgD⟩, hT, hC, hP, hL⟩ := id hK
  have hn : M (63 + 34 * v) = ndO (63 + 34 * v) (nI v) (nI 1) (nI (ksN N.1)) (pvI (ksF N.1)) N.2.2.1 N.2.2.2 := by rw [hup] at hn; exact hn
  have htO := hT.1
  have htR := hT.2.1.1
  rw [List.length_map] at htR
  obtain ⟨fb, fht, ftm, fbi, t5, t6, t7, t8, tX⟩ := id hT.2.2.2.1
  have hen : (enB (ksB N.1)).length = (ksB N.1).length := enB_len _
  have hcO := hC.1
  have hpO := hP.1.1
  rw [List.length_map] at hpO
  have hlO := hL.1.1
  have hb5 := hI.2.1
  have hb113 := hI.1.top.2.1
  refine hz_aloadn (pc := 0) 0 (hz_dec kX11_told 0 rfl) rfl ?_
  refine hz_iloadn (pc := 1) 1 (hz_dec kX11_told 1 rfl) rfl ?_
  refine hz_xV (pc := 2) (a := 8) (As := [.int (nI v)]) (st := []) (hz_dec kX11_told 2 rfl) co_X11_162 im_X11_nodeOf se_X11_nodeOf rfl hH (by omega) (by omega) (c_nOf hz63 hH hnn hNs (b := v) hv) rfl (by decide) ⟨Nat.le_refl _, Nat.le_refl _⟩ (Nat.le_of_ble_eq_true rfl) rfl ?_
  refine hz_astoren (pc := 5) (i := 3) (lo2 := [(3, .ref (63 + 34 * v)), (0, .ref 8), (1, .int (nI v)), (2, .int (nI 3))]) (hz_dec kX11_told 3 rfl) rfl (by decide) rfl ?_
  refine hz_aloadn (pc := 6) 0 (hz_dec kX11_told 4 rfl) rfl ?_
  refine hz_ifnull (pc := 7) (hz_dec kX11_told 5 rfl) ?_
  refine hz_iloadn (pc := 10) 3 (hz_dec kX11_told 6 rfl) rfl ?_
  refine hz_z_lt (pc := 11) (tgt := 20) (hz_dec kX11_told 7 rfl) (by decide) (by omega) ?_
  refine hz_iloadn (pc := 14) 3 (hz_dec kX11_told 8 rfl) rfl ?_
  refine hz_bipush (pc := 15) (v := nI 10) (hz_dec kX11_told 9 rfl) (by decide) ?_
  refine hz_n_le (pc := 17) (tgt := 22) (hz_dec kX11_told 10 rfl) (by decide) (by omega) (by omega) (fun hq2 => ?_) (fun hq2 => ?_)
  · skip
    refine hz_aloadn (pc := 22) 0 (hz_dec kX11_told 13 rfl) rfl ?_
    refine hz_get (pc := 23) (hz_dec kX11_told 14 rfl) fo_X11_166 hn (by omega) (by omega) rfl ?_
    refine hz_z_ne (pc := 26) (tgt := 43) (hz_dec kX11_told 15 rfl) (by decide) (by omega) (fun hq3 => ?_) (fun hq3 => ?_)
    · skip
      refine hz_iloadn (pc := 43) 3 (hz_dec kX11_told 24 rfl) rfl ?_
      refine hz_swIn (pc := 44) (off := 88) (tgt := 132) (hz_dec kX11_told 25 rfl) (by decide) (by decide) rfl (by decide) ?_
      refine hz_aloadn (pc := 132) 0 (hz_dec kX11_told 42 rfl) rfl ?_
      refine hz_get (pc := 133) (hz_dec kX11_told 43 rfl) fo_X11_104 hn (by omega) (by omega) rfl ?_
      refine hz_get (pc := 136) (hz_dec kX11_told 44 rfl) fo_X11_241 htO (by omega) (by omega) rfl ?_
      refine hz_aloadn (pc := 139) 0 (hz_dec kX11_told 45 rfl) rfl ?_
      refine hz_get (pc := 140) (hz_dec kX11_told 46 rfl) fo_X11_104 hn (by omega) (by omega) rfl ?_
      refine hz_get (pc := 143) (hz_dec kX11_told 47 rfl) fo_X11_235 htO (by omega) (by omega) rfl ?_
      refine hz_iald (pc := 146) (j := ksT N.1) (hz_dec kX11_told 48 rfl) t6 (by omega) (by omega) rfl (by omega) (by decide) ?_
      refine hz_eqi (pc := 147) (tX (ksT N.1) (by omega)).2.1 ?_
      exact hz_iret (pc := 147) (hz_dec kX11_told 49 rfl) rfl (hcP.no hR _)
    · skip
      exact absurd hq3 (by decide)
  · skip
    exact absurd hq2 (by decide)
set_option maxHeartbeats 4000000 in
set_option maxRecDepth 100000 in
theorem c_rtoldU3 {κ : hz_C} {z B : Nat} {M : hz_M} {H : ho_H} (hnn : (hoN H).length ≤ 6) (hT4 : (hoT H).length ≤ 4000) (hR : hmR M z B H) {v : Nat} (hv : v < (hoN H).length) {N : nd_N} (hN : ndL (hoN H) v = N) (hup : N.2.1 = true) (hI : ksI N.1) : hz_Mt κ xX12_told 4 0 0 [.ref B, .int (nI v), .int (nI 3)] z M (hmP M z B (.int (nI (eH (enB (ksB N.1)) (ksT N.1)))) H) := by
  refine hz_ent (lo := [(0, .ref B), (1, .int (nI v)), (2, .int (nI 3))]) (by decide) (Nat.le_of_ble_eq_true rfl) rfl ?_
  obtain ⟨hk0_, hE0, ⟨m1, m2, m3⟩, hNd, a5, a6, a7, a8⟩ := id hR
  obtain ⟨⟨fs, hO, hF⟩, -, -, h8, hz⟩ := id hk0_
  obtain ⟨x1, x3, x4, x5, x6, x7, x8⟩ := id m3
  have eSt : stI (ndL (hoN H) v).2.1 = nI 0 := by rw [hN, hup]; rfl
  refine hz_aloadn (pc := 0) 0 (hz_dec kX12_told 0 rfl) rfl ?_
  refine hz_iconst (pc := 1) (v := nI 0) (hz_dec kX12_told 1 rfl) (by decide) ?_
  refine hz_puti (pc := 2) (hz_dec kX12_told 2 rfl) fo_X12_302 ft_X12_0 hO h8 (by omega) (by rw [hF.1]; decide) ?_
  have hf1 : mfr B [0, 89] [] M (va_up M B (.inr (12, (List.set fs 0 (.int (nI 0)))))) := (mfr.rf ⟨fs, hO, hF⟩).upO (k := 0) hO hF rfl rfl
  have hR1 : hmR (va_up M B (.inr (12, (List.set fs 0 (.int (nI 0)))))) z B H := hR.m0 hf1 hE0.upO ((fdB_of (va_up_self _ _ _) 89).trans ((List.getElem?_set_ne (by decide)).trans ((fdB_of hO 89).symm.trans x8)))
  generalize (va_up M B (.inr (12, (List.set fs 0 (.int (nI 0)))))) = M1 at *
  obtain ⟨hk1, hE1, ⟨n1, d1, q1⟩, hNd1, a51, a61, a71, a81⟩ := id hR1
  obtain ⟨⟨fs1, hO1, hF1⟩, -, -, -, -⟩ := id hk1
  have h0 : mdN M1 B v N := by have q := hNd1 v hv; rw [hN] at q; exact q
  have hv6 : v < 6 := by omega
  have h01 : mnS M1 B v 1 N.1 (pvI (ksF N.1)) (ksP N.1) := by have q := h0.1; rw [hup] at q; exact q
  have h02 : orX (fA M1 B) v (mkO (ksL N.1)) := by have q := h0.2.1; rw [hup] at q; exact q
  obtain ⟨p1, p2, p3, p4, ⟨p5a, p5b, p5c⟩, p6, p7, p9⟩ := id h01
  have hbp := hI.1.p hI.2.1
  obtain ⟨b1, b2, b3, b4, b5, b6, b7, b8⟩ := id hbp
  refine hz_aloadn (pc := 5) 0 (hz_dec kX12_told 3 rfl) rfl ?_
  refine hz_iloadn (pc := 6) 1 (hz_dec kX12_told 4 rfl) rfl ?_
  refine hz_xV (pc := 7) (a := B) (As := [.int (nI v)]) (st := []) (hz_dec kX12_told 5 rfl) co_X12_692 im_X12_stateOf se_X12_stateOf rfl hO1 h8 (by omega) (c_st hnn hR1 hv) rfl (by decide) ⟨Nat.le_refl _, Nat.le_refl _⟩ (Nat.le_of_ble_eq_true rfl) rfl ?_
  refine hz_eqi (pc := 10) eSt ?_
  refine hz_istoren (pc := 10) (i := 3) (lo2 := [(3, .int (nI 0)), (0, .ref B), (1, .int (nI v)), (2, .int (nI 3))]) (hz_dec kX12_told 6 rfl) rfl (by decide) rfl ?_
  refine hz_iloadn (pc := 11) 0 (hz_dec kX12_told 7 rfl) rfl ?_
  refine hz_iconst (pc := 12) (v := (-1)) (hz_dec kX12_told 8 rfl) (by decide) ?_
  refine hz_icmp_eq (pc := 13) (tgt := 26) (hz_dec kX12_told 9 rfl) (by decide) (fun hq1 => ?_) (fun hq1 => ?_)
  · skip
    exact absurd hq1 (by decide)
  · skip
    refine hz_iloadn (pc := 16) 3 (hz_dec kX12_told 10 rfl) rfl ?_
    refine hz_z_lt (pc := 17) (tgt := 26) (hz_dec kX12_told 11 rfl) (by decide) (by omega) ?_
    refine hz_iloadn (pc := 20) 3 (hz_dec kX12_told 12 rfl) rfl ?_
    refine hz_bipush (pc := 21) (v := nI 10) (hz_dec kX12_told 13 rfl) (by decide) ?_
    refine hz_n_le (pc := 23) (tgt := 28) (hz_dec kX12_told 14 rfl) (by decide) (by omega) (by omega) (fun hq3 => ?_) (fun hq3 => ?_)
    · skip
      refine hz_iloadn (pc := 28) 0 (hz_dec kX12_told 17 rfl) rfl ?_
      refine hz_bipush (pc := 29) (v := (-2)) (hz_dec kX12_told 18 rfl) (by decide) ?_
      refine hz_icmp_ne (pc := 31) (tgt := 47) (hz_dec kX12_told 19 rfl) (by decide) (fun hq4 => ?_) (fun hq4 => ?_)
      · skip
        refine hz_iloadn (pc := 47) 3 (hz_dec kX12_told 27 rfl) rfl ?_
        refine hz_swIn (pc := 48) (off := 80) (tgt := 128) (hz_dec kX12_told 28 rfl) (by decide) (by decide) rfl (by decide) ?_
        refine hz_aloadn (pc := 128) 1 (hz_dec kX12_told 45 rfl) rfl ?_
        refine hz_get (pc := 129) (v := .ref (B + 27)) (hz_dec kX12_told 46 rfl) fo_X12_92 hO1 h8 (by omega) (hF1.2 29 (by decide) (by decide)) ?_
        refine hz_iloadn (pc := 132) 2 (hz_dec kX12_told 47 rfl) rfl ?_
        refine hz_aloadn (pc := 133) 1 (hz_dec kX12_told 48 rfl) rfl ?_
        refine hz_get (pc := 134) (v := .ref (B + 21)) (hz_dec kX12_told 49 rfl) fo_X12_74 hO1 h8 (by omega) (hF1.2 23 (by decide) (by decide)) ?_
        refine hz_iloadn (pc := 137) 2 (hz_dec kX12_told 50 rfl) rfl ?_
        refine hz_iald (pc := 138) (j := v) (hz_dec kX12_told 51 rfl) hE1.a21 (by omega) (by omega) rfl (by omega) (by decide) ?_
        refine hz_eqi (pc := 139) p5b.2.1 ?_
        refine hz_xS (pc := 139) (As := [.int (nI v), .int (nI (ksT N.1))]) (st := [.ref (B + 27)]) (hz_dec kX12_told 52 rfl) co_X12_419 sc_X12_at0 (c_at0 (v := v) (y := ksT N.1)) rfl (by decide) ⟨Nat.le_refl _, Nat.le_refl _⟩ (Nat.le_of_ble_eq_true rfl) rfl ?_
        refine hz_iald (pc := 142) (j := 128 * v + ksT N.1) (hz_dec kX12_told 53 rfl) hE1.a27 (by omega) (by omega) rfl (by omega) (by decide) ?_
        refine hz_eqi (pc := 143) ((p5a (ksT N.1) (by omega)).1 (by omega)).2.1 ?_
        exact hz_iret (pc := 143) (hz_dec kX12_told 54 rfl) rfl ⟨rfl, rfl, hf1.S rfl, hR1⟩
      · skip
        exact absurd hq4 (by decide)
    · skip
      exact absurd hq3 (by decide)
set_option maxHeartbeats 4000000 in
set_option maxRecDepth 100000 in
theorem c_toldU4 {κ : hz_C} {z : Nat} {M : hz_M} {H : ho_H} (hz : 63 + 34 * (hoN H).length ≤ z) (hnn : (hoN H).length ≤ 6) (hT4 : (hoT H).length ≤ 4000) {ll : Nat} {fr kn : Int32} (hR : hcR M z H ll fr kn) {v : Nat} (hv : v < (hoN H).length) {N : nd_N} (hN : ndL (hoN H) v = N) (hup : N.2.1 = true) (hI : ksI N.1) : hz_Mt κ xX11_told 4 0 0 [.ref 8, .int (nI v), .int (nI 4)] z M (hcP M z H (.int (nI (coAt (ksB N.1) (enB (ksB N.1)) (ksT N.1)).length)) H) := by
  refine hz_ent (lo := [(0, .ref 8), (1, .int (nI v)), (2, .int (nI 4))]) (by decide) (Nat.le_of_ble_eq_true rfl) rfl ?_
  have hH := hR.1
  have hNs := hR.2.1
  obtain ⟨hO, hQ, hD⟩ := id hR.2.2.2.2.1
  obtain ⟨g53, h53⟩ := hR.2.2.2.2.2.1
  have hJ := hR.2.2.2.1
  obtain ⟨g56, h56, hT56⟩ := hR.2.2.2.2.2.2.2.2.2.1
  have hdf := hR.2.2.2.2.2.2.2.2.2.2
  have hck : ck_k M z := hJ.2.2.2.2.2.2.2.1
  have hcs : ck_s M := hJ.2.2.2.2.2.2.2.2.1
  have hz63 : 63 ≤ z := by omega
  have hK := hR.2.2.1 v hv
  rw [hN] at hK
  obtain ⟨hn, ⟨gd, hgd, hgD⟩, hT, hC, hP, hL⟩ := id hK
  have hn : M (63 + 34 * v) = ndO (63 + 34 * v) (nI v) (nI 1) (nI (ksN N.1)) (pvI (ksF N.1)) N.2.2.1 N.2.2.2 := by rw [hup] at hn; exact hn
  have htO := hT.1
  have htR := hT.2.1.1
  rw [List.length_map] at htR
  obtain ⟨fb, fht, ftm, fbi, t5, t6, t7, t8, tX⟩ := id hT.2.2.2.1
  have hen : (enB (ksB N.1)).length = (ksB N.1).length := enB_len _
  have hcO := hC.1
  have hpO := hP.1.1
  rw [List.length_map] at hpO
  have hlO := hL.1.1
  have hb5 := hI.2.1
  have hb113 := hI.1.top.2.1
  refine hz_aloadn (pc := 0) 0 (hz_dec kX11_told 0 rfl) rfl ?_
  refine hz_iloadn (pc := 1) 1 (hz_dec kX11_told 1 rfl) rfl ?_
  refine hz_xV (pc := 2) (a := 8) (As := [.int (nI v)]) (st := []) (hz_dec kX11_told 2 rfl) co_X11_162 im_X11_nodeOf se_X11_nodeOf rfl hH (by omega) (by omega) (c_nOf hz63 hH hnn hNs (b := v) hv) rfl (by decide) ⟨Nat.le_refl _, Nat.le_refl _⟩ (Nat.le_of_ble_eq_true rfl) rfl ?_
  refine hz_astoren (pc := 5) (i := 3) (lo2 := [(3, .ref (63 + 34 * v)), (0, .ref 8), (1, .int (nI v)), (2, .int (nI 4))]) (hz_dec kX11_told 3 rfl) rfl (by decide) rfl ?_
  refine hz_aloadn (pc := 6) 0 (hz_dec kX11_told 4 rfl) rfl ?_
  refine hz_ifnull (pc := 7) (hz_dec kX11_told 5 rfl) ?_
  refine hz_iloadn (pc := 10) 3 (hz_dec kX11_told 6 rfl) rfl ?_
  refine hz_z_lt (pc := 11) (tgt := 20) (hz_dec kX11_told 7 rfl) (by decide) (by omega) ?_
  refine hz_iloadn (pc := 14) 3 (hz_dec kX11_told 8 rfl) rfl ?_
  refine hz_bipush (pc := 15) (v := nI 10) (hz_dec kX11_told 9 rfl) (by decide) ?_
  refine hz_n_le (pc := 17) (tgt := 22) (hz_dec kX11_told 10 rfl) (by decide) (by omega) (by omega) (fun hq2 => ?_) (fun hq2 => ?_)
  · skip
    refine hz_aloadn (pc := 22) 0 (hz_dec kX11_told 13 rfl) rfl ?_
    refine hz_get (pc := 23) (hz_dec kX11_told 14 rfl) fo_X11_166 hn (by omega) (by omega) rfl ?_
    refine hz_z_ne (pc := 26) (tgt := 43) (hz_dec kX11_told 15 rfl) (by decide) (by omega) (fun hq3 => ?_) (fun hq3 => ?_)
    · skip
      refine hz_iloadn (pc := 43) 3 (hz_dec kX11_told 24 rfl) rfl ?_
      refine hz_swIn (pc := 44) (off := 104) (tgt := 148) (hz_dec kX11_told 25 rfl) (by decide) (by decide) rfl (by decide) ?_
      refine hz_aloadn (pc := 148) 0 (hz_dec kX11_told 50 rfl) rfl ?_
      refine hz_get (pc := 149) (hz_dec kX11_told 51 rfl) fo_X11_170 hn (by omega) (by omega) rfl ?_
      refine hz_get (pc := 152) (hz_dec kX11_told 52 rfl) fo_X11_174 hcO (by omega) (by omega) rfl ?_
      exact hz_iret (pc := 155) (hz_dec kX11_told 53 rfl) rfl (hcP.no hR _)
    · skip
      exact absurd hq3 (by decide)
  · skip
    exact absurd hq2 (by decide)
set_option maxHeartbeats 4000000 in
set_option maxRecDepth 100000 in
theorem c_rtoldU4 {κ : hz_C} {z B : Nat} {M : hz_M} {H : ho_H} (hnn : (hoN H).length ≤ 6) (hT4 : (hoT H).length ≤ 4000) (hR : hmR M z B H) {v : Nat} (hv : v < (hoN H).length) {N : nd_N} (hN : ndL (hoN H) v = N) (hup : N.2.1 = true) (hI : ksI N.1) : hz_Mt κ xX12_told 4 0 0 [.ref B, .int (nI v), .int (nI 4)] z M (hmP M z B (.int (nI (coAt (ksB N.1) (enB (ksB N.1)) (ksT N.1)).length)) H) := by
  refine hz_ent (lo := [(0, .ref B), (1, .int (nI v)), (2, .int (nI 4))]) (by decide) (Nat.le_of_ble_eq_true rfl) rfl ?_
  obtain ⟨hk0_, hE0, ⟨m1, m2, m3⟩, hNd, a5, a6, a7, a8⟩ := id hR
  obtain ⟨⟨fs, hO, hF⟩, -, -, h8, hz⟩ := id hk0_
  obtain ⟨x1, x3, x4, x5, x6, x7, x8⟩ := id m3
  have eSt : stI (ndL (hoN H) v).2.1 = nI 0 := by rw [hN, hup]; rfl
  refine hz_aloadn (pc := 0) 0 (hz_dec kX12_told 0 rfl) rfl ?_
  refine hz_iconst (pc := 1) (v := nI 0) (hz_dec kX12_told 1 rfl) (by decide) ?_
  refine hz_puti (pc := 2) (hz_dec kX12_told 2 rfl) fo_X12_302 ft_X12_0 hO h8 (by omega) (by rw [hF.1]; decide) ?_
  have hf1 : mfr B [0, 89] [] M (va_up M B (.inr (12, (List.set fs 0 (.int (nI 0)))))) := (mfr.rf ⟨fs, hO, hF⟩).upO (k := 0) hO hF rfl rfl
  have hR1 : hmR (va_up M B (.inr (12, (List.set fs 0 (.int (nI 0)))))) z B H := hR.m0 hf1 hE0.upO ((fdB_of (va_up_self _ _ _) 89).trans ((List.getElem?_set_ne (by decide)).trans ((fdB_of hO 89).symm.trans x8)))
  generalize (va_up M B (.inr (12, (List.set fs 0 (.int (nI 0)))))) = M1 at *
  obtain ⟨hk1, hE1, ⟨n1, d1, q1⟩, hNd1, a51, a61, a71, a81⟩ := id hR1
  obtain ⟨⟨fs1, hO1, hF1⟩, -, -, -, -⟩ := id hk1
  have h0 : mdN M1 B v N := by have q := hNd1 v hv; rw [hN] at q; exact q
  have hv6 : v < 6 := by omega
  have h01 : mnS M1 B v 1 N.1 (pvI (ksF N.1)) (ksP N.1) := by have q := h0.1; rw [hup] at q; exact q
  have h02 : orX (fA M1 B) v (mkO (ksL N.1)) := by have q := h0.2.1; rw [hup] at q; exact q
  obtain ⟨p1, p2, p3, p4, ⟨p5a, p5b, p5c⟩, p6, p7, p9⟩ := id h01
  have hbp := hI.1.p hI.2.1
  obtain ⟨b1, b2, b3, b4, b5, b6, b7, b8⟩ := id hbp
  refine hz_aloadn (pc := 5) 0 (hz_dec kX12_told 3 rfl) rfl ?_
  refine hz_iloadn (pc := 6) 1 (hz_dec kX12_told 4 rfl) rfl ?_
  refine hz_xV (pc := 7) (a := B) (As := [.int (nI v)]) (st := []) (hz_dec kX12_told 5 rfl) co_X12_692 im_X12_stateOf se_X12_stateOf rfl hO1 h8 (by omega) (c_st hnn hR1 hv) rfl (by decide) ⟨Nat.le_refl _, Nat.le_refl _⟩ (Nat.le_of_ble_eq_true rfl) rfl ?_
  refine hz_eqi (pc := 10) eSt ?_
  refine hz_istoren (pc := 10) (i := 3) (lo2 := [(3, .int (nI 0)), (0, .ref B), (1, .int (nI v)), (2, .int (nI 4))]) (hz_dec kX12_told 6 rfl) rfl (by decide) rfl ?_
  refine hz_iloadn (pc := 11) 0 (hz_dec kX12_told 7 rfl) rfl ?_
  refine hz_iconst (pc := 12) (v := (-1)) (hz_dec kX12_told 8 rfl) (by decide) ?_
  refine hz_icmp_eq (pc := 13) (tgt := 26) (hz_dec kX12_told 9 rfl) (by decide) (fun hq1 => ?_) (fun hq1 => ?_)
  · skip
    exact absurd hq1 (by decide)
  · skip
    refine hz_iloadn (pc := 16) 3 (hz_dec kX12_told 10 rfl) rfl ?_
    refine hz_z_lt (pc := 17) (tgt := 26) (hz_dec kX12_told 11 rfl) (by decide) (by omega) ?_
    refine hz_iloadn (pc := 20) 3 (hz_dec kX12_told 12 rfl) rfl ?_
    refine hz_bipush (pc := 21) (v := nI 10) (hz_dec kX12_told 13 rfl) (by decide) ?_
    refine hz_n_le (pc := 23) (tgt := 28) (hz_dec kX12_told 14 rfl) (by decide) (by omega) (by omega) (fun hq3 => ?_) (fun hq3 => ?_)
    · skip
      refine hz_iloadn (pc := 28) 0 (hz_dec kX12_told 17 rfl) rfl ?_
      refine hz_bipush (pc := 29) (v := (-2)) (hz_dec kX12_told 18 rfl) (by decide) ?_
      refine hz_icmp_ne (pc := 31) (tgt := 47) (hz_dec kX12_told 19 rfl) (by decide) (fun hq4 => ?_) (fun hq4 => ?_)
      · skip
        refine hz_iloadn (pc := 47) 3 (hz_dec kX12_told 27 rfl) rfl ?_
        refine hz_swIn (pc := 48) (off := 96) (tgt := 144) (hz_dec kX12_told 28 rfl) (by decide) (by decide) rfl (by decide) ?_
        refine hz_aloadn (pc := 144) 1 (hz_dec kX12_told 55 rfl) rfl ?_
        refine hz_iloadn (pc := 145) 2 (hz_dec kX12_told 56 rfl) rfl ?_
        refine hz_aloadn (pc := 146) 1 (hz_dec kX12_told 57 rfl) rfl ?_
        refine hz_get (pc := 147) (v := .ref (B + 21)) (hz_dec kX12_told 58 rfl) fo_X12_74 hO1 h8 (by omega) (hF1.2 23 (by decide) (by decide)) ?_
        refine hz_iloadn (pc := 150) 2 (hz_dec kX12_told 59 rfl) rfl ?_
        refine hz_iald (pc := 151) (j := v) (hz_dec kX12_told 60 rfl) hE1.a21 (by omega) (by omega) rfl (by omega) (by decide) ?_
        refine hz_eqi (pc := 152) p5b.2.1 ?_
        refine hz_callV (pc := 152) (a := B) (As := [.int (nI v), .int (nI (ksT N.1))]) (st := []) (hz_dec kX12_told 61 rfl) co_X12_553 im_X12_unspentBehind se_X12_unspentBehind rfl hO1 h8 (by omega) (c_unR hR1 hnn hv hN hI) rfl (by decide) ⟨Nat.le_refl _, Nat.le_refl _⟩ (Nat.le_of_ble_eq_true rfl) rfl (fun r9 z9 M2 hp9 => ?_)
        obtain ⟨rfl, rfl, hu2, hR2, hc2⟩ := hp9
        obtain ⟨fs2, hO2, hF2⟩ := id hc2.1
        have g53 : fs2[53]? = some (.int (nI (coAt (ksB N.1) (enB (ksB N.1)) (ksT N.1)).length)) := (fdB_of hO2 53).symm.trans hc2.2.1
        refine hz_aloadn (pc := 155) 1 (hz_dec kX12_told 62 rfl) rfl ?_
        refine hz_get (pc := 156) (v := .int (nI ((coAt (ksB N.1) (enB (ksB N.1)) (ksT N.1)).length))) (hz_dec kX12_told 63 rfl) fo_X12_479 hO2 h8 (by omega) g53 ?_
        exact hz_iret (pc := 159) (hz_dec kX12_told 64 rfl) rfl ⟨rfl, rfl, (hf1.S rfl).tr (hu2.S rfl), hR2⟩
      · skip
        exact absurd hq4 (by decide)
    · skip
      exact absurd hq3 (by decide)
set_option maxHeartbeats 4000000 in
set_option maxRecDepth 100000 in
theorem c_toldU5 {κ : hz_C} {z : Nat} {M : hz_M} {H : ho_H} (hz : 63 + 34 * (hoN H).length ≤ z) (hnn : (hoN H).length ≤ 6) (hT4 : (hoT H).length ≤ 4000) {ll : Nat} {fr kn : Int32} (hR : hcR M z H ll fr kn) {v : Nat} (hv : v < (hoN H).length) {N : nd_N} (hN : ndL (hoN H) v = N) (hup : N.2.1 = true) (hI : ksI N.1) : hz_Mt κ xX11_told 4 0 0 [.ref 8, .int (nI v), .int (nI 5)] z M (hcP M z H (.int (nI (ksP N.1).length)) H) := by
  refine hz_ent (lo := [(0, .ref 8), (1, .int (nI v)), (2, .int (nI 5))]) (by decide) (Nat.le_of_ble_eq_true rfl) rfl ?_
  have hH := hR.1
  have hNs := hR.2.1
  obtain ⟨hO, hQ, hD⟩ := id hR.2.2.2.2.1
  obtain ⟨g53, h53⟩ := hR.2.2.2.2.2.1
  have hJ := hR.2.2.2.1
  obtain ⟨g56, h56, hT56⟩ := hR.2.2.2.2.2.2.2.2.2.1
  have hdf := hR.2.2.2.2.2.2.2.2.2.2
  have hck : ck_k M z := hJ.2.2.2.2.2.2.2.1
  have hcs : ck_s M := hJ.2.2.2.2.2.2.2.2.1
  have hz63 : 63 ≤ z := by omega
  have hK := hR.2.2.1 v hv
  rw [hN] at hK
  obtain ⟨hn, ⟨gd, hgd, hgD⟩, hT, hC, hP, hL⟩ := id hK
  have hn : M (63 + 34 * v) = ndO (63 + 34 * v) (nI v) (nI 1) (nI (ksN N.1)) (pvI (ksF N.1)) N.2.2.1 N.2.2.2 := by rw [hup] at hn; exact hn
  have htO := hT.1
  have htR := hT.2.1.1
  rw [List.length_map] at htR
  obtain ⟨fb, fht, ftm, fbi, t5, t6, t7, t8, tX⟩ := id hT.2.2.2.1
  have hen : (enB (ksB N.1)).length = (ksB N.1).length := enB_len _
  have hcO := hC.1
  have hpO := hP.1.1
  rw [List.length_map] at hpO
  have hlO := hL.1.1
  have hb5 := hI.2.1
  have hb113 := hI.1.top.2.1
  refine hz_aloadn (pc := 0) 0 (hz_dec kX11_told 0 rfl) rfl ?_
  refine hz_iloadn (pc := 1) 1 (hz_dec kX11_told 1 rfl) rfl ?_
  refine hz_xV (pc := 2) (a := 8) (As := [.int (nI v)]) (st := []) (hz_dec kX11_told 2 rfl) co_X11_162 im_X11_nodeOf se_X11_nodeOf rfl hH (by omega) (by omega) (c_nOf hz63 hH hnn hNs (b := v) hv) rfl (by decide) ⟨Nat.le_refl _, Nat.le_refl _⟩ (Nat.le_of_ble_eq_true rfl) rfl ?_
  refine hz_astoren (pc := 5) (i := 3) (lo2 := [(3, .ref (63 + 34 * v)), (0, .ref 8), (1, .int (nI v)), (2, .int (nI 5))]) (hz_dec kX11_told 3 rfl) rfl (by decide) rfl ?_
  refine hz_aloadn (pc := 6) 0 (hz_dec kX11_told 4 rfl) rfl ?_
  refine hz_ifnull (pc := 7) (hz_dec kX11_told 5 rfl) ?_
  refine hz_iloadn (pc := 10) 3 (hz_dec kX11_told 6 rfl) rfl ?_
  refine hz_z_lt (pc := 11) (tgt := 20) (hz_dec kX11_told 7 rfl) (by decide) (by omega) ?_
  refine hz_iloadn (pc := 14) 3 (hz_dec kX11_told 8 rfl) rfl ?_
  refine hz_bipush (pc := 15) (v := nI 10) (hz_dec kX11_told 9 rfl) (by decide) ?_
  refine hz_n_le (pc := 17) (tgt := 22) (hz_dec kX11_told 10 rfl) (by decide) (by omega) (by omega) (fun hq2 => ?_) (fun hq2 => ?_)
  · skip
    refine hz_aloadn (pc := 22) 0 (hz_dec kX11_told 13 rfl) rfl ?_
    refine hz_get (pc := 23) (hz_dec kX11_told 14 rfl) fo_X11_166 hn (by omega) (by omega) rfl ?_
    refine hz_z_ne (pc := 26) (tgt := 43) (hz_dec kX11_told 15 rfl) (by decide) (by omega) (fun hq3 => ?_) (fun hq3 => ?_)
    · skip
      refine hz_iloadn (pc := 43) 3 (hz_dec kX11_told 24 rfl) rfl ?_
      refine hz_swIn (pc := 44) (off := 112) (tgt := 156) (hz_dec kX11_told 25 rfl) (by decide) (by decide) rfl (by decide) ?_
      refine hz_aloadn (pc := 156) 0 (hz_dec kX11_told 54 rfl) rfl ?_
      refine hz_get (pc := 157) (hz_dec kX11_told 55 rfl) fo_X11_257 hn (by omega) (by omega) rfl ?_
      refine hz_get (pc := 160) (hz_dec kX11_told 56 rfl) fo_X11_220 hpO (by omega) (by omega) rfl ?_
      exact hz_iret (pc := 163) (hz_dec kX11_told 57 rfl) rfl (hcP.no hR _)
    · skip
      exact absurd hq3 (by decide)
  · skip
    exact absurd hq2 (by decide)
set_option maxHeartbeats 4000000 in
set_option maxRecDepth 100000 in
theorem c_rtoldU5 {κ : hz_C} {z B : Nat} {M : hz_M} {H : ho_H} (hnn : (hoN H).length ≤ 6) (hT4 : (hoT H).length ≤ 4000) (hR : hmR M z B H) {v : Nat} (hv : v < (hoN H).length) {N : nd_N} (hN : ndL (hoN H) v = N) (hup : N.2.1 = true) (hI : ksI N.1) : hz_Mt κ xX12_told 4 0 0 [.ref B, .int (nI v), .int (nI 5)] z M (hmP M z B (.int (nI (ksP N.1).length)) H) := by
  refine hz_ent (lo := [(0, .ref B), (1, .int (nI v)), (2, .int (nI 5))]) (by decide) (Nat.le_of_ble_eq_true rfl) rfl ?_
  obtain ⟨hk0_, hE0, ⟨m1, m2, m3⟩, hNd, a5, a6, a7, a8⟩ := id hR
  obtain ⟨⟨fs, hO, hF⟩, -, -, h8, hz⟩ := id hk0_
  obtain ⟨x1, x3, x4, x5, x6, x7, x8⟩ := id m3
  have eSt : stI (ndL (hoN H) v).2.1 = nI 0 := by rw [hN, hup]; rfl
  refine hz_aloadn (pc := 0) 0 (hz_dec kX12_told 0 rfl) rfl ?_
  refine hz_iconst (pc := 1) (v := nI 0) (hz_dec kX12_told 1 rfl) (by decide) ?_
  refine hz_puti (pc := 2) (hz_dec kX12_told 2 rfl) fo_X12_302 ft_X12_0 hO h8 (by omega) (by rw [hF.1]; decide) ?_
  have hf1 : mfr B [0, 89] [] M (va_up M B (.inr (12, (List.set fs 0 (.int (nI 0)))))) := (mfr.rf ⟨fs, hO, hF⟩).upO (k := 0) hO hF rfl rfl
  have hR1 : hmR (va_up M B (.inr (12, (List.set fs 0 (.int (nI 0)))))) z B H := hR.m0 hf1 hE0.upO ((fdB_of (va_up_self _ _ _) 89).trans ((List.getElem?_set_ne (by decide)).trans ((fdB_of hO 89).symm.trans x8)))
  generalize (va_up M B (.inr (12, (List.set fs 0 (.int (nI 0)))))) = M1 at *
  obtain ⟨hk1, hE1, ⟨n1, d1, q1⟩, hNd1, a51, a61, a71, a81⟩ := id hR1
  obtain ⟨⟨fs1, hO1, hF1⟩, -, -, -, -⟩ := id hk1
  have h0 : mdN M1 B v N := by have q := hNd1 v hv; rw [hN] at q; exact q
  have hv6 : v < 6 := by omega
  have h01 : mnS M1 B v 1 N.1 (pvI (ksF N.1)) (ksP N.1) := by have q := h0.1; rw [hup] at q; exact q
  have h02 : orX (fA M1 B) v (mkO (ksL N.1)) := by have q := h0.2.1; rw [hup] at q; exact q
  obtain ⟨p1, p2, p3, p4, ⟨p5a, p5b, p5c⟩, p6, p7, p9⟩ := id h01
  have hbp := hI.1.p hI.2.1
  obtain ⟨b1, b2, b3, b4, b5, b6, b7, b8⟩ := id hbp
  refine hz_aloadn (pc := 5) 0 (hz_dec kX12_told 3 rfl) rfl ?_
  refine hz_iloadn (pc := 6) 1 (hz_dec kX12_told 4 rfl) rfl ?_
  refine hz_xV (pc := 7) (a := B) (As := [.int (nI v)]) (st := []) (hz_dec kX12_told 5 rfl) co_X12_692 im_X12_stateOf se_X12_stateOf rfl hO1 h8 (by omega) (c_st hnn hR1 hv) rfl (by decide) ⟨Nat.le_refl _, Nat.le_refl _⟩ (Nat.le_of_ble_eq_true rfl) rfl ?_
  refine hz_eqi (pc := 10) eSt ?_
  refine hz_istoren (pc := 10) (i := 3) (lo2 := [(3, .int (nI 0)), (0, .ref B), (1, .int (nI v)), (2, .int (nI 5))]) (hz_dec kX12_told 6 rfl) rfl (by decide) rfl ?_
  refine hz_iloadn (pc := 11) 0 (hz_dec kX12_told 7 rfl) rfl ?_
  refine hz_iconst (pc := 12) (v := (-1)) (hz_dec kX12_told 8 rfl) (by decide) ?_
  refine hz_icmp_eq (pc := 13) (tgt := 26) (hz_dec kX12_told 9 rfl) (by decide) (fun hq1 => ?_) (fun hq1 => ?_)
  · skip
    exact absurd hq1 (by decide)
  · skip
    refine hz_iloadn (pc := 16) 3 (hz_dec kX12_told 10 rfl) rfl ?_
    refine hz_z_lt (pc := 17) (tgt := 26) (hz_dec kX12_told 11 rfl) (by decide) (by omega) ?_
    refine hz_iloadn (pc := 20) 3 (hz_dec kX12_told 12 rfl) rfl ?_
    refine hz_bipush (pc := 21) (v := nI 10) (hz_dec kX12_told 13 rfl) (by decide) ?_
    refine hz_n_le (pc := 23) (tgt := 28) (hz_dec kX12_told 14 rfl) (by decide) (by omega) (by omega) (fun hq3 => ?_) (fun hq3 => ?_)
    · skip
      refine hz_iloadn (pc := 28) 0 (hz_dec kX12_told 17 rfl) rfl ?_
      refine hz_bipush (pc := 29) (v := (-2)) (hz_dec kX12_told 18 rfl) (by decide) ?_
      refine hz_icmp_ne (pc := 31) (tgt := 47) (hz_dec kX12_told 19 rfl) (by decide) (fun hq4 => ?_) (fun hq4 => ?_)
      · skip
        refine hz_iloadn (pc := 47) 3 (hz_dec kX12_told 27 rfl) rfl ?_
        refine hz_swIn (pc := 48) (off := 112) (tgt := 160) (hz_dec kX12_told 28 rfl) (by decide) (by decide) rfl (by decide) ?_
        refine hz_aloadn (pc := 160) 1 (hz_dec kX12_told 65 rfl) rfl ?_
        refine hz_get (pc := 161) (v := .ref (B + 58)) (hz_dec kX12_told 66 rfl) fo_X12_193 hO1 h8 (by omega) (hF1.2 67 (by decide) (by decide)) ?_
        refine hz_iloadn (pc := 164) 2 (hz_dec kX12_told 67 rfl) rfl ?_
        refine hz_iald (pc := 165) (j := v) (hz_dec kX12_told 68 rfl) hE1.a58 (by omega) (by omega) rfl (by omega) (by decide) ?_
        refine hz_eqi (pc := 166) p6.1 ?_
        exact hz_iret (pc := 166) (hz_dec kX12_told 69 rfl) rfl ⟨rfl, rfl, hf1.S rfl, hR1⟩
      · skip
        exact absurd hq4 (by decide)
    · skip
      exact absurd hq3 (by decide)
set_option maxHeartbeats 4000000 in
set_option maxRecDepth 100000 in
theorem c_toldU6 {κ : hz_C} {z : Nat} {M : hz_M} {H : ho_H} (hz : 63 + 34 * (hoN H).length ≤ z) (hnn : (hoN H).length ≤ 6) (hT4 : (hoT H).length ≤ 4000) {ll : Nat} {fr kn : Int32} (hR : hcR M z H ll fr kn) {v : Nat} (hv : v < (hoN H).length) {N : nd_N} (hN : ndL (hoN H) v = N) (hup : N.2.1 = true) (hI : ksI N.1) : hz_Mt κ xX11_told 4 0 0 [.ref 8, .int (nI v), .int (nI 6)] z M (hcP M z H (.int (nI (ksL N.1).length)) H) := by
  refine hz_ent (lo := [(0, .ref 8), (1, .int (nI v)), (2, .int (nI 6))]) (by decide) (Nat.le_of_ble_eq_true rfl) rfl ?_
  have hH := hR.1
  have hNs := hR.2.1
  obtain ⟨hO, hQ, hD⟩ := id hR.2.2.2.2.1
  obtain ⟨g53, h53⟩ := hR.2.2.2.2.2.1
  have hJ := hR.2.2.2.1
  obtain ⟨g56, h56, hT56⟩ := hR.2.2.2.2.2.2.2.2.2.1
  have hdf := hR.2.2.2.2.2.2.2.2.2.2
  have hck : ck_k M z := hJ.2.2.2.2.2.2.2.1
  have hcs : ck_s M := hJ.2.2.2.2.2.2.2.2.1
  have hz63 : 63 ≤ z := by omega
  have hK := hR.2.2.1 v hv
  rw [hN] at hK
  obtain ⟨hn, ⟨gd, hgd, hgD⟩, hT, hC, hP, hL⟩ := id hK
  have hn : M (63 + 34 * v) = ndO (63 + 34 * v) (nI v) (nI 1) (nI (ksN N.1)) (pvI (ksF N.1)) N.2.2.1 N.2.2.2 := by rw [hup] at hn; exact hn
  have htO := hT.1
  have htR := hT.2.1.1
  rw [List.length_map] at htR
  obtain ⟨fb, fht, ftm, fbi, t5, t6, t7, t8, tX⟩ := id hT.2.2.2.1
  have hen : (enB (ksB N.1)).length = (ksB N.1).length := enB_len _
  have hcO := hC.1
  have hpO := hP.1.1
  rw [List.length_map] at hpO
  have hlO := hL.1.1
  have hb5 := hI.2.1
  have hb113 := hI.1.top.2.1
  refine hz_aloadn (pc := 0) 0 (hz_dec kX11_told 0 rfl) rfl ?_
  refine hz_iloadn (pc := 1) 1 (hz_dec kX11_told 1 rfl) rfl ?_
  refine hz_xV (pc := 2) (a := 8) (As := [.int (nI v)]) (st := []) (hz_dec kX11_told 2 rfl) co_X11_162 im_X11_nodeOf se_X11_nodeOf rfl hH (by omega) (by omega) (c_nOf hz63 hH hnn hNs (b := v) hv) rfl (by decide) ⟨Nat.le_refl _, Nat.le_refl _⟩ (Nat.le_of_ble_eq_true rfl) rfl ?_
  refine hz_astoren (pc := 5) (i := 3) (lo2 := [(3, .ref (63 + 34 * v)), (0, .ref 8), (1, .int (nI v)), (2, .int (nI 6))]) (hz_dec kX11_told 3 rfl) rfl (by decide) rfl ?_
  refine hz_aloadn (pc := 6) 0 (hz_dec kX11_told 4 rfl) rfl ?_
  refine hz_ifnull (pc := 7) (hz_dec kX11_told 5 rfl) ?_
  refine hz_iloadn (pc := 10) 3 (hz_dec kX11_told 6 rfl) rfl ?_
  refine hz_z_lt (pc := 11) (tgt := 20) (hz_dec kX11_told 7 rfl) (by decide) (by omega) ?_
  refine hz_iloadn (pc := 14) 3 (hz_dec kX11_told 8 rfl) rfl ?_
  refine hz_bipush (pc := 15) (v := nI 10) (hz_dec kX11_told 9 rfl) (by decide) ?_
  refine hz_n_le (pc := 17) (tgt := 22) (hz_dec kX11_told 10 rfl) (by decide) (by omega) (by omega) (fun hq2 => ?_) (fun hq2 => ?_)
  · skip
    refine hz_aloadn (pc := 22) 0 (hz_dec kX11_told 13 rfl) rfl ?_
    refine hz_get (pc := 23) (hz_dec kX11_told 14 rfl) fo_X11_166 hn (by omega) (by omega) rfl ?_
    refine hz_z_ne (pc := 26) (tgt := 43) (hz_dec kX11_told 15 rfl) (by decide) (by omega) (fun hq3 => ?_) (fun hq3 => ?_)
    · skip
      refine hz_iloadn (pc := 43) 3 (hz_dec kX11_told 24 rfl) rfl ?_
      refine hz_swIn (pc := 44) (off := 120) (tgt := 164) (hz_dec kX11_told 25 rfl) (by decide) (by decide) rfl (by decide) ?_
      refine hz_aloadn (pc := 164) 0 (hz_dec kX11_told 58 rfl) rfl ?_
      refine hz_get (pc := 165) (hz_dec kX11_told 59 rfl) fo_X11_380 hn (by omega) (by omega) rfl ?_
      refine hz_get (pc := 168) (hz_dec kX11_told 60 rfl) fo_X11_220 hlO (by omega) (by omega) rfl ?_
      exact hz_iret (pc := 171) (hz_dec kX11_told 61 rfl) rfl (hcP.no hR _)
    · skip
      exact absurd hq3 (by decide)
  · skip
    exact absurd hq2 (by decide)
set_option maxHeartbeats 4000000 in
set_option maxRecDepth 100000 in
theorem c_rtoldU6 {κ : hz_C} {z B : Nat} {M : hz_M} {H : ho_H} (hnn : (hoN H).length ≤ 6) (hT4 : (hoT H).length ≤ 4000) (hR : hmR M z B H) {v : Nat} (hv : v < (hoN H).length) {N : nd_N} (hN : ndL (hoN H) v = N) (hup : N.2.1 = true) (hI : ksI N.1) : hz_Mt κ xX12_told 4 0 0 [.ref B, .int (nI v), .int (nI 6)] z M (hmP M z B (.int (nI (ksL N.1).length)) H) := by
  refine hz_ent (lo := [(0, .ref B), (1, .int (nI v)), (2, .int (nI 6))]) (by decide) (Nat.le_of_ble_eq_true rfl) rfl ?_
  obtain ⟨hk0_, hE0, ⟨m1, m2, m3⟩, hNd, a5, a6, a7, a8⟩ := id hR
  obtain ⟨⟨fs, hO, hF⟩, -, -, h8, hz⟩ := id hk0_
  obtain ⟨x1, x3, x4, x5, x6, x7, x8⟩ := id m3
  have eSt : stI (ndL (hoN H) v).2.1 = nI 0 := by rw [hN, hup]; rfl
  refine hz_aloadn (pc := 0) 0 (hz_dec kX12_told 0 rfl) rfl ?_
  refine hz_iconst (pc := 1) (v := nI 0) (hz_dec kX12_told 1 rfl) (by decide) ?_
  refine hz_puti (pc := 2) (hz_dec kX12_told 2 rfl) fo_X12_302 ft_X12_0 hO h8 (by omega) (by rw [hF.1]; decide) ?_
  have hf1 : mfr B [0, 89] [] M (va_up M B (.inr (12, (List.set fs 0 (.int (nI 0)))))) := (mfr.rf ⟨fs, hO, hF⟩).upO (k := 0) hO hF rfl rfl
  have hR1 : hmR (va_up M B (.inr (12, (List.set fs 0 (.int (nI 0)))))) z B H := hR.m0 hf1 hE0.upO ((fdB_of (va_up_self _ _ _) 89).trans ((List.getElem?_set_ne (by decide)).trans ((fdB_of hO 89).symm.trans x8)))
  generalize (va_up M B (.inr (12, (List.set fs 0 (.int (nI 0)))))) = M1 at *
  obtain ⟨hk1, hE1, ⟨n1, d1, q1⟩, hNd1, a51, a61, a71, a81⟩ := id hR1
  obtain ⟨⟨fs1, hO1, hF1⟩, -, -, -, -⟩ := id hk1
  have h0 : mdN M1 B v N := by have q := hNd1 v hv; rw [hN] at q; exact q
  have hv6 : v < 6 := by omega
  have h01 : mnS M1 B v 1 N.1 (pvI (ksF N.1)) (ksP N.1) := by have q := h0.1; rw [hup] at q; exact q
  have h02 : orX (fA M1 B) v (mkO (ksL N.1)) := by have q := h0.2.1; rw [hup] at q; exact q
  obtain ⟨p1, p2, p3, p4, ⟨p5a, p5b, p5c⟩, p6, p7, p9⟩ := id h01
  have hbp := hI.1.p hI.2.1
  obtain ⟨b1, b2, b3, b4, b5, b6, b7, b8⟩ := id hbp
  refine hz_aloadn (pc := 5) 0 (hz_dec kX12_told 3 rfl) rfl ?_
  refine hz_iloadn (pc := 6) 1 (hz_dec kX12_told 4 rfl) rfl ?_
  refine hz_xV (pc := 7) (a := B) (As := [.int (nI v)]) (st := []) (hz_dec kX12_told 5 rfl) co_X12_692 im_X12_stateOf se_X12_stateOf rfl hO1 h8 (by omega) (c_st hnn hR1 hv) rfl (by decide) ⟨Nat.le_refl _, Nat.le_refl _⟩ (Nat.le_of_ble_eq_true rfl) rfl ?_
  refine hz_eqi (pc := 10) eSt ?_
  refine hz_istoren (pc := 10) (i := 3) (lo2 := [(3, .int (nI 0)), (0, .ref B), (1, .int (nI v)), (2, .int (nI 6))]) (hz_dec kX12_told 6 rfl) rfl (by decide) rfl ?_
  refine hz_iloadn (pc := 11) 0 (hz_dec kX12_told 7 rfl) rfl ?_
  refine hz_iconst (pc := 12) (v := (-1)) (hz_dec kX12_told 8 rfl) (by decide) ?_
  refine hz_icmp_eq (pc := 13) (tgt := 26) (hz_dec kX12_told 9 rfl) (by decide) (fun hq1 => ?_) (fun hq1 => ?_)
  · skip
    exact absurd hq1 (by decide)
  · skip
    refine hz_iloadn (pc := 16) 3 (hz_dec kX12_told 10 rfl) rfl ?_
    refine hz_z_lt (pc := 17) (tgt := 26) (hz_dec kX12_told 11 rfl) (by decide) (by omega) ?_
    refine hz_iloadn (pc := 20) 3 (hz_dec kX12_told 12 rfl) rfl ?_
    refine hz_bipush (pc := 21) (v := nI 10) (hz_dec kX12_told 13 rfl) (by decide) ?_
    refine hz_n_le (pc := 23) (tgt := 28) (hz_dec kX12_told 14 rfl) (by decide) (by omega) (by omega) (fun hq3 => ?_) (fun hq3 => ?_)
    · skip
      refine hz_iloadn (pc := 28) 0 (hz_dec kX12_told 17 rfl) rfl ?_
      refine hz_bipush (pc := 29) (v := (-2)) (hz_dec kX12_told 18 rfl) (by decide) ?_
      refine hz_icmp_ne (pc := 31) (tgt := 47) (hz_dec kX12_told 19 rfl) (by decide) (fun hq4 => ?_) (fun hq4 => ?_)
      · skip
        refine hz_iloadn (pc := 47) 3 (hz_dec kX12_told 27 rfl) rfl ?_
        refine hz_swIn (pc := 48) (off := 119) (tgt := 167) (hz_dec kX12_told 28 rfl) (by decide) (by decide) rfl (by decide) ?_
        refine hz_aloadn (pc := 167) 1 (hz_dec kX12_told 70 rfl) rfl ?_
        refine hz_iloadn (pc := 168) 2 (hz_dec kX12_told 71 rfl) rfl ?_
        refine hz_xV (pc := 169) (a := B) (As := [.int (nI v)]) (st := []) (hz_dec kX12_told 72 rfl) co_X12_721 im_X12_orphansOf se_X12_orphansOf rfl hO1 h8 (by omega) (c_orOf hk1.1 hE1 h8 hz hv6 h02 hI.2.2.2.2) rfl (by decide) ⟨Nat.le_refl _, Nat.le_refl _⟩ (Nat.le_of_ble_eq_true rfl) rfl ?_
        exact hz_iret (pc := 172) (hz_dec kX12_told 73 rfl) rfl ⟨rfl, rfl, hf1.S rfl, hR1⟩
      · skip
        exact absurd hq4 (by decide)
    · skip
      exact absurd hq3 (by decide)
set_option maxHeartbeats 4000000 in
set_option maxRecDepth 100000 in
theorem c_toldU7 {κ : hz_C} {z : Nat} {M : hz_M} {H : ho_H} (hz : 63 + 34 * (hoN H).length ≤ z) (hnn : (hoN H).length ≤ 6) (hT4 : (hoT H).length ≤ 4000) {ll : Nat} {fr kn : Int32} (hR : hcR M z H ll fr kn) {v : Nat} (hv : v < (hoN H).length) {N : nd_N} (hN : ndL (hoN H) v = N) (hup : N.2.1 = true) (hI : ksI N.1) : hz_Mt κ xX11_told 4 0 0 [.ref 8, .int (nI v), .int (nI 7)] z M (hcP M z H (.int (nI (ksN N.1))) H) := by
  refine hz_ent (lo := [(0, .ref 8), (1, .int (nI v)), (2, .int (nI 7))]) (by decide) (Nat.le_of_ble_eq_true rfl) rfl ?_
  have hH := hR.1
  have hNs := hR.2.1
  obtain ⟨hO, hQ, hD⟩ := id hR.2.2.2.2.1
  obtain ⟨g53, h53⟩ := hR.2.2.2.2.2.1
  have hJ := hR.2.2.2.1
  obtain ⟨g56, h56, hT56⟩ := hR.2.2.2.2.2.2.2.2.2.1
  have hdf := hR.2.2.2.2.2.2.2.2.2.2
  have hck : ck_k M z := hJ.2.2.2.2.2.2.2.1
  have hcs : ck_s M := hJ.2.2.2.2.2.2.2.2.1
  have hz63 : 63 ≤ z := by omega
  have hK := hR.2.2.1 v hv
  rw [hN] at hK
  obtain ⟨hn, ⟨gd, hgd, hgD⟩, hT, hC, hP, hL⟩ := id hK
  have hn : M (63 + 34 * v) = ndO (63 + 34 * v) (nI v) (nI 1) (nI (ksN N.1)) (pvI (ksF N.1)) N.2.2.1 N.2.2.2 := by rw [hup] at hn; exact hn
  have htO := hT.1
  have htR := hT.2.1.1
  rw [List.length_map] at htR
  obtain ⟨fb, fht, ftm, fbi, t5, t6, t7, t8, tX⟩ := id hT.2.2.2.1
  have hen : (enB (ksB N.1)).length = (ksB N.1).length := enB_len _
  have hcO := hC.1
  have hpO := hP.1.1
  rw [List.length_map] at hpO
  have hlO := hL.1.1
  have hb5 := hI.2.1
  have hb113 := hI.1.top.2.1
  refine hz_aloadn (pc := 0) 0 (hz_dec kX11_told 0 rfl) rfl ?_
  refine hz_iloadn (pc := 1) 1 (hz_dec kX11_told 1 rfl) rfl ?_
  refine hz_xV (pc := 2) (a := 8) (As := [.int (nI v)]) (st := []) (hz_dec kX11_told 2 rfl) co_X11_162 im_X11_nodeOf se_X11_nodeOf rfl hH (by omega) (by omega) (c_nOf hz63 hH hnn hNs (b := v) hv) rfl (by decide) ⟨Nat.le_refl _, Nat.le_refl _⟩ (Nat.le_of_ble_eq_true rfl) rfl ?_
  refine hz_astoren (pc := 5) (i := 3) (lo2 := [(3, .ref (63 + 34 * v)), (0, .ref 8), (1, .int (nI v)), (2, .int (nI 7))]) (hz_dec kX11_told 3 rfl) rfl (by decide) rfl ?_
  refine hz_aloadn (pc := 6) 0 (hz_dec kX11_told 4 rfl) rfl ?_
  refine hz_ifnull (pc := 7) (hz_dec kX11_told 5 rfl) ?_
  refine hz_iloadn (pc := 10) 3 (hz_dec kX11_told 6 rfl) rfl ?_
  refine hz_z_lt (pc := 11) (tgt := 20) (hz_dec kX11_told 7 rfl) (by decide) (by omega) ?_
  refine hz_iloadn (pc := 14) 3 (hz_dec kX11_told 8 rfl) rfl ?_
  refine hz_bipush (pc := 15) (v := nI 10) (hz_dec kX11_told 9 rfl) (by decide) ?_
  refine hz_n_le (pc := 17) (tgt := 22) (hz_dec kX11_told 10 rfl) (by decide) (by omega) (by omega) (fun hq2 => ?_) (fun hq2 => ?_)
  · skip
    refine hz_aloadn (pc := 22) 0 (hz_dec kX11_told 13 rfl) rfl ?_
    refine hz_get (pc := 23) (hz_dec kX11_told 14 rfl) fo_X11_166 hn (by omega) (by omega) rfl ?_
    refine hz_z_ne (pc := 26) (tgt := 43) (hz_dec kX11_told 15 rfl) (by decide) (by omega) (fun hq3 => ?_) (fun hq3 => ?_)
    · skip
      refine hz_iloadn (pc := 43) 3 (hz_dec kX11_told 24 rfl) rfl ?_
      refine hz_swIn (pc := 44) (off := 128) (tgt := 172) (hz_dec kX11_told 25 rfl) (by decide) (by decide) rfl (by decide) ?_
      refine hz_aloadn (pc := 172) 0 (hz_dec kX11_told 62 rfl) rfl ?_
      refine hz_get (pc := 173) (hz_dec kX11_told 63 rfl) fo_X11_367 hn (by omega) (by omega) rfl ?_
      exact hz_iret (pc := 176) (hz_dec kX11_told 64 rfl) rfl (hcP.no hR _)
    · skip
      exact absurd hq3 (by decide)
  · skip
    exact absurd hq2 (by decide)
set_option maxHeartbeats 4000000 in
set_option maxRecDepth 100000 in
theorem c_rtoldU7 {κ : hz_C} {z B : Nat} {M : hz_M} {H : ho_H} (hnn : (hoN H).length ≤ 6) (hT4 : (hoT H).length ≤ 4000) (hR : hmR M z B H) {v : Nat} (hv : v < (hoN H).length) {N : nd_N} (hN : ndL (hoN H) v = N) (hup : N.2.1 = true) (hI : ksI N.1) : hz_Mt κ xX12_told 4 0 0 [.ref B, .int (nI v), .int (nI 7)] z M (hmP M z B (.int (nI (ksN N.1))) H) := by
  refine hz_ent (lo := [(0, .ref B), (1, .int (nI v)), (2, .int (nI 7))]) (by decide) (Nat.le_of_ble_eq_true rfl) rfl ?_
  obtain ⟨hk0_, hE0, ⟨m1, m2, m3⟩, hNd, a5, a6, a7, a8⟩ := id hR
  obtain ⟨⟨fs, hO, hF⟩, -, -, h8, hz⟩ := id hk0_
  obtain ⟨x1, x3, x4, x5, x6, x7, x8⟩ := id m3
  have eSt : stI (ndL (hoN H) v).2.1 = nI 0 := by rw [hN, hup]; rfl
  refine hz_aloadn (pc := 0) 0 (hz_dec kX12_told 0 rfl) rfl ?_
  refine hz_iconst (pc := 1) (v := nI 0) (hz_dec kX12_told 1 rfl) (by decide) ?_
  refine hz_puti (pc := 2) (hz_dec kX12_told 2 rfl) fo_X12_302 ft_X12_0 hO h8 (by omega) (by rw [hF.1]; decide) ?_
  have hf1 : mfr B [0, 89] [] M (va_up M B (.inr (12, (List.set fs 0 (.int (nI 0)))))) := (mfr.rf ⟨fs, hO, hF⟩).upO (k := 0) hO hF rfl rfl
  have hR1 : hmR (va_up M B (.inr (12, (List.set fs 0 (.int (nI 0)))))) z B H := hR.m0 hf1 hE0.upO ((fdB_of (va_up_self _ _ _) 89).trans ((List.getElem?_set_ne (by decide)).trans ((fdB_of hO 89).symm.trans x8)))
  generalize (va_up M B (.inr (12, (List.set fs 0 (.int (nI 0)))))) = M1 at *
  obtain ⟨hk1, hE1, ⟨n1, d1, q1⟩, hNd1, a51, a61, a71, a81⟩ := id hR1
  obtain ⟨⟨fs1, hO1, hF1⟩, -, -, -, -⟩ := id hk1
  have h0 : mdN M1 B v N := by have q := hNd1 v hv; rw [hN] at q; exact q
  have hv6 : v < 6 := by omega
  have h01 : mnS M1 B v 1 N.1 (pvI (ksF N.1)) (ksP N.1) := by have q := h0.1; rw [hup] at q; exact q
  have h02 : orX (fA M1 B) v (mkO (ksL N.1)) := by have q := h0.2.1; rw [hup] at q; exact q
  obtain ⟨p1, p2, p3, p4, ⟨p5a, p5b, p5c⟩, p6, p7, p9⟩ := id h01
  have hbp := hI.1.p hI.2.1
  obtain ⟨b1, b2, b3, b4, b5, b6, b7, b8⟩ := id hbp
  refine hz_aloadn (pc := 5) 0 (hz_dec kX12_told 3 rfl) rfl ?_
  refine hz_iloadn (pc := 6) 1 (hz_dec kX12_told 4 rfl) rfl ?_
  refine hz_xV (pc := 7) (a := B) (As := [.int (nI v)]) (st := []) (hz_dec kX12_told 5 rfl) co_X12_692 im_X12_stateOf se_X12_stateOf rfl hO1 h8 (by omega) (c_st hnn hR1 hv) rfl (by decide) ⟨Nat.le_refl _, Nat.le_refl _⟩ (Nat.le_of_ble_eq_true rfl) rfl ?_
  refine hz_eqi (pc := 10) eSt ?_
  refine hz_istoren (pc := 10) (i := 3) (lo2 := [(3, .int (nI 0)), (0, .ref B), (1, .int (nI v)), (2, .int (nI 7))]) (hz_dec kX12_told 6 rfl) rfl (by decide) rfl ?_
  refine hz_iloadn (pc := 11) 0 (hz_dec kX12_told 7 rfl) rfl ?_
  refine hz_iconst (pc := 12) (v := (-1)) (hz_dec kX12_told 8 rfl) (by decide) ?_
  refine hz_icmp_eq (pc := 13) (tgt := 26) (hz_dec kX12_told 9 rfl) (by decide) (fun hq1 => ?_) (fun hq1 => ?_)
  · skip
    exact absurd hq1 (by decide)
  · skip
    refine hz_iloadn (pc := 16) 3 (hz_dec kX12_told 10 rfl) rfl ?_
    refine hz_z_lt (pc := 17) (tgt := 26) (hz_dec kX12_told 11 rfl) (by decide) (by omega) ?_
    refine hz_iloadn (pc := 20) 3 (hz_dec kX12_told 12 rfl) rfl ?_
    refine hz_bipush (pc := 21) (v := nI 10) (hz_dec kX12_told 13 rfl) (by decide) ?_
    refine hz_n_le (pc := 23) (tgt := 28) (hz_dec kX12_told 14 rfl) (by decide) (by omega) (by omega) (fun hq3 => ?_) (fun hq3 => ?_)
    · skip
      refine hz_iloadn (pc := 28) 0 (hz_dec kX12_told 17 rfl) rfl ?_
      refine hz_bipush (pc := 29) (v := (-2)) (hz_dec kX12_told 18 rfl) (by decide) ?_
      refine hz_icmp_ne (pc := 31) (tgt := 47) (hz_dec kX12_told 19 rfl) (by decide) (fun hq4 => ?_) (fun hq4 => ?_)
      · skip
        refine hz_iloadn (pc := 47) 3 (hz_dec kX12_told 27 rfl) rfl ?_
        refine hz_swIn (pc := 48) (off := 125) (tgt := 173) (hz_dec kX12_told 28 rfl) (by decide) (by decide) rfl (by decide) ?_
        refine hz_aloadn (pc := 173) 1 (hz_dec kX12_told 74 rfl) rfl ?_
        refine hz_get (pc := 174) (v := .ref (B + 18)) (hz_dec kX12_told 75 rfl) fo_X12_65 hO1 h8 (by omega) (hF1.2 20 (by decide) (by decide)) ?_
        refine hz_iloadn (pc := 177) 2 (hz_dec kX12_told 76 rfl) rfl ?_
        refine hz_iald (pc := 178) (j := v) (hz_dec kX12_told 77 rfl) hE1.a18 (by omega) (by omega) rfl (by omega) (by decide) ?_
        refine hz_eqi (pc := 179) p3 ?_
        exact hz_iret (pc := 179) (hz_dec kX12_told 78 rfl) rfl ⟨rfl, rfl, hf1.S rfl, hR1⟩
      · skip
        exact absurd hq4 (by decide)
    · skip
      exact absurd hq3 (by decide)
set_option maxHeartbeats 4000000 in
set_option maxRecDepth 100000 in
theorem c_toldU8 {κ : hz_C} {z : Nat} {M : hz_M} {H : ho_H} (hz : 63 + 34 * (hoN H).length ≤ z) (hnn : (hoN H).length ≤ 6) (hT4 : (hoT H).length ≤ 4000) {ll : Nat} {fr kn : Int32} (hR : hcR M z H ll fr kn) {v : Nat} (hv : v < (hoN H).length) {N : nd_N} (hN : ndL (hoN H) v = N) (hup : N.2.1 = true) (hI : ksI N.1) : hz_Mt κ xX11_told 4 0 0 [.ref 8, .int (nI v), .int (nI 8)] z M (hcP M z H (.int (if pvI (ksF N.1) < 0 then -4 else pvI (ksF N.1))) H) := by
  refine hz_ent (lo := [(0, .ref 8), (1, .int (nI v)), (2, .int (nI 8))]) (by decide) (Nat.le_of_ble_eq_true rfl) rfl ?_
  have hH := hR.1
  have hNs := hR.2.1
  obtain ⟨hO, hQ, hD⟩ := id hR.2.2.2.2.1
  obtain ⟨g53, h53⟩ := hR.2.2.2.2.2.1
  have hJ := hR.2.2.2.1
  obtain ⟨g56, h56, hT56⟩ := hR.2.2.2.2.2.2.2.2.2.1
  have hdf := hR.2.2.2.2.2.2.2.2.2.2
  have hck : ck_k M z := hJ.2.2.2.2.2.2.2.1
  have hcs : ck_s M := hJ.2.2.2.2.2.2.2.2.1
  have hz63 : 63 ≤ z := by omega
  have hK := hR.2.2.1 v hv
  rw [hN] at hK
  obtain ⟨hn, ⟨gd, hgd, hgD⟩, hT, hC, hP, hL⟩ := id hK
  have hn : M (63 + 34 * v) = ndO (63 + 34 * v) (nI v) (nI 1) (nI (ksN N.1)) (pvI (ksF N.1)) N.2.2.1 N.2.2.2 := by rw [hup] at hn; exact hn
  have htO := hT.1
  have htR := hT.2.1.1
  rw [List.length_map] at htR
  obtain ⟨fb, fht, ftm, fbi, t5, t6, t7, t8, tX⟩ := id hT.2.2.2.1
  have hen : (enB (ksB N.1)).length = (ksB N.1).length := enB_len _
  have hcO := hC.1
  have hpO := hP.1.1
  rw [List.length_map] at hpO
  have hlO := hL.1.1
  have hb5 := hI.2.1
  have hb113 := hI.1.top.2.1
  refine hz_aloadn (pc := 0) 0 (hz_dec kX11_told 0 rfl) rfl ?_
  refine hz_iloadn (pc := 1) 1 (hz_dec kX11_told 1 rfl) rfl ?_
  refine hz_xV (pc := 2) (a := 8) (As := [.int (nI v)]) (st := []) (hz_dec kX11_told 2 rfl) co_X11_162 im_X11_nodeOf se_X11_nodeOf rfl hH (by omega) (by omega) (c_nOf hz63 hH hnn hNs (b := v) hv) rfl (by decide) ⟨Nat.le_refl _, Nat.le_refl _⟩ (Nat.le_of_ble_eq_true rfl) rfl ?_
  refine hz_astoren (pc := 5) (i := 3) (lo2 := [(3, .ref (63 + 34 * v)), (0, .ref 8), (1, .int (nI v)), (2, .int (nI 8))]) (hz_dec kX11_told 3 rfl) rfl (by decide) rfl ?_
  refine hz_aloadn (pc := 6) 0 (hz_dec kX11_told 4 rfl) rfl ?_
  refine hz_ifnull (pc := 7) (hz_dec kX11_told 5 rfl) ?_
  refine hz_iloadn (pc := 10) 3 (hz_dec kX11_told 6 rfl) rfl ?_
  refine hz_z_lt (pc := 11) (tgt := 20) (hz_dec kX11_told 7 rfl) (by decide) (by omega) ?_
  refine hz_iloadn (pc := 14) 3 (hz_dec kX11_told 8 rfl) rfl ?_
  refine hz_bipush (pc := 15) (v := nI 10) (hz_dec kX11_told 9 rfl) (by decide) ?_
  refine hz_n_le (pc := 17) (tgt := 22) (hz_dec kX11_told 10 rfl) (by decide) (by omega) (by omega) (fun hq2 => ?_) (fun hq2 => ?_)
  · skip
    refine hz_aloadn (pc := 22) 0 (hz_dec kX11_told 13 rfl) rfl ?_
    refine hz_get (pc := 23) (hz_dec kX11_told 14 rfl) fo_X11_166 hn (by omega) (by omega) rfl ?_
    refine hz_z_ne (pc := 26) (tgt := 43) (hz_dec kX11_told 15 rfl) (by decide) (by omega) (fun hq3 => ?_) (fun hq3 => ?_)
    · skip
      refine hz_iloadn (pc := 43) 3 (hz_dec kX11_told 24 rfl) rfl ?_
      refine hz_swIn (pc := 44) (off := 133) (tgt := 177) (hz_dec kX11_told 25 rfl) (by decide) (by decide) rfl (by decide) ?_
      refine hz_aloadn (pc := 177) 0 (hz_dec kX11_told 65 rfl) rfl ?_
      refine hz_get (pc := 178) (hz_dec kX11_told 66 rfl) fo_X11_374 hn (by omega) (by omega) rfl ?_
      refine hz_if_ge (pc := 181) (tgt := 189) (hz_dec kX11_told 67 rfl) (by decide) (fun h8_ => ?_) (fun h8_ => ?_)
      · skip
        have e8 := fu8p h8_
        refine hz_aloadn (pc := 189) 0 (hz_dec kX11_told 70 rfl) rfl ?_
        refine hz_get (pc := 190) (hz_dec kX11_told 71 rfl) fo_X11_374 hn (by omega) (by omega) rfl ?_
        exact hz_iret (pc := 193) (hz_dec kX11_told 72 rfl) rfl (by rw [e8]; exact hcP.no hR _)
      · skip
        have e8 := fu8n h8_
        refine hz_bipush (pc := 184) (v := (-4)) (hz_dec kX11_told 68 rfl) (by decide) ?_
        refine hz_goto (pc := 186) (tgt := 193) (hz_dec kX11_told 69 rfl) (by decide) ?_
        exact hz_iret (pc := 193) (hz_dec kX11_told 72 rfl) rfl (by rw [e8]; exact hcP.no hR _)
    · skip
      exact absurd hq3 (by decide)
  · skip
    exact absurd hq2 (by decide)
set_option maxHeartbeats 4000000 in
set_option maxRecDepth 100000 in
theorem c_rtoldU8 {κ : hz_C} {z B : Nat} {M : hz_M} {H : ho_H} (hnn : (hoN H).length ≤ 6) (hT4 : (hoT H).length ≤ 4000) (hR : hmR M z B H) {v : Nat} (hv : v < (hoN H).length) {N : nd_N} (hN : ndL (hoN H) v = N) (hup : N.2.1 = true) (hI : ksI N.1) : hz_Mt κ xX12_told 4 0 0 [.ref B, .int (nI v), .int (nI 8)] z M (hmP M z B (.int (if pvI (ksF N.1) < 0 then -4 else pvI (ksF N.1))) H) := by
  refine hz_ent (lo := [(0, .ref B), (1, .int (nI v)), (2, .int (nI 8))]) (by decide) (Nat.le_of_ble_eq_true rfl) rfl ?_
  obtain ⟨hk0_, hE0, ⟨m1, m2, m3⟩, hNd, a5, a6, a7, a8⟩ := id hR
  obtain ⟨⟨fs, hO, hF⟩, -, -, h8, hz⟩ := id hk0_
  obtain ⟨x1, x3, x4, x5, x6, x7, x8⟩ := id m3
  have eSt : stI (ndL (hoN H) v).2.1 = nI 0 := by rw [hN, hup]; rfl
  refine hz_aloadn (pc := 0) 0 (hz_dec kX12_told 0 rfl) rfl ?_
  refine hz_iconst (pc := 1) (v := nI 0) (hz_dec kX12_told 1 rfl) (by decide) ?_
  refine hz_puti (pc := 2) (hz_dec kX12_told 2 rfl) fo_X12_302 ft_X12_0 hO h8 (by omega) (by rw [hF.1]; decide) ?_
  have hf1 : mfr B [0, 89] [] M (va_up M B (.inr (12, (List.set fs 0 (.int (nI 0)))))) := (mfr.rf ⟨fs, hO, hF⟩).upO (k := 0) hO hF rfl rfl
  have hR1 : hmR (va_up M B (.inr (12, (List.set fs 0 (.int (nI 0)))))) z B H := hR.m0 hf1 hE0.upO ((fdB_of (va_up_self _ _ _) 89).trans ((List.getElem?_set_ne (by decide)).trans ((fdB_of hO 89).symm.trans x8)))
  generalize (va_up M B (.inr (12, (List.set fs 0 (.int (nI 0)))))) = M1 at *
  obtain ⟨hk1, hE1, ⟨n1, d1, q1⟩, hNd1, a51, a61, a71, a81⟩ := id hR1
  obtain ⟨⟨fs1, hO1, hF1⟩, -, -, -, -⟩ := id hk1
  have h0 : mdN M1 B v N := by have q := hNd1 v hv; rw [hN] at q; exact q
  have hv6 : v < 6 := by omega
  have h01 : mnS M1 B v 1 N.1 (pvI (ksF N.1)) (ksP N.1) := by have q := h0.1; rw [hup] at q; exact q
  have h02 : orX (fA M1 B) v (mkO (ksL N.1)) := by have q := h0.2.1; rw [hup] at q; exact q
  obtain ⟨p1, p2, p3, p4, ⟨p5a, p5b, p5c⟩, p6, p7, p9⟩ := id h01
  have hbp := hI.1.p hI.2.1
  obtain ⟨b1, b2, b3, b4, b5, b6, b7, b8⟩ := id hbp
  refine hz_aloadn (pc := 5) 0 (hz_dec kX12_told 3 rfl) rfl ?_
  refine hz_iloadn (pc := 6) 1 (hz_dec kX12_told 4 rfl) rfl ?_
  refine hz_xV (pc := 7) (a := B) (As := [.int (nI v)]) (st := []) (hz_dec kX12_told 5 rfl) co_X12_692 im_X12_stateOf se_X12_stateOf rfl hO1 h8 (by omega) (c_st hnn hR1 hv) rfl (by decide) ⟨Nat.le_refl _, Nat.le_refl _⟩ (Nat.le_of_ble_eq_true rfl) rfl ?_
  refine hz_eqi (pc := 10) eSt ?_
  refine hz_istoren (pc := 10) (i := 3) (lo2 := [(3, .int (nI 0)), (0, .ref B), (1, .int (nI v)), (2, .int (nI 8))]) (hz_dec kX12_told 6 rfl) rfl (by decide) rfl ?_
  refine hz_iloadn (pc := 11) 0 (hz_dec kX12_told 7 rfl) rfl ?_
  refine hz_iconst (pc := 12) (v := (-1)) (hz_dec kX12_told 8 rfl) (by decide) ?_
  refine hz_icmp_eq (pc := 13) (tgt := 26) (hz_dec kX12_told 9 rfl) (by decide) (fun hq1 => ?_) (fun hq1 => ?_)
  · skip
    exact absurd hq1 (by decide)
  · skip
    refine hz_iloadn (pc := 16) 3 (hz_dec kX12_told 10 rfl) rfl ?_
    refine hz_z_lt (pc := 17) (tgt := 26) (hz_dec kX12_told 11 rfl) (by decide) (by omega) ?_
    refine hz_iloadn (pc := 20) 3 (hz_dec kX12_told 12 rfl) rfl ?_
    refine hz_bipush (pc := 21) (v := nI 10) (hz_dec kX12_told 13 rfl) (by decide) ?_
    refine hz_n_le (pc := 23) (tgt := 28) (hz_dec kX12_told 14 rfl) (by decide) (by omega) (by omega) (fun hq3 => ?_) (fun hq3 => ?_)
    · skip
      refine hz_iloadn (pc := 28) 0 (hz_dec kX12_told 17 rfl) rfl ?_
      refine hz_bipush (pc := 29) (v := (-2)) (hz_dec kX12_told 18 rfl) (by decide) ?_
      refine hz_icmp_ne (pc := 31) (tgt := 47) (hz_dec kX12_told 19 rfl) (by decide) (fun hq4 => ?_) (fun hq4 => ?_)
      · skip
        refine hz_iloadn (pc := 47) 3 (hz_dec kX12_told 27 rfl) rfl ?_
        refine hz_swIn (pc := 48) (off := 132) (tgt := 180) (hz_dec kX12_told 28 rfl) (by decide) (by decide) rfl (by decide) ?_
        refine hz_aloadn (pc := 180) 1 (hz_dec kX12_told 79 rfl) rfl ?_
        refine hz_get (pc := 181) (v := .ref (B + 19)) (hz_dec kX12_told 80 rfl) fo_X12_68 hO1 h8 (by omega) (hF1.2 21 (by decide) (by decide)) ?_
        refine hz_iloadn (pc := 184) 2 (hz_dec kX12_told 81 rfl) rfl ?_
        refine hz_iald (pc := 185) (j := v) (hz_dec kX12_told 82 rfl) hE1.a19 (by omega) (by omega) rfl (by omega) (by decide) ?_
        refine hz_eqi (pc := 186) p4 ?_
        refine hz_if_ge (pc := 186) (tgt := 194) (hz_dec kX12_told 83 rfl) (by decide) (fun h8_ => ?_) (fun h8_ => ?_)
        · skip
          have e8 := fu8p h8_
          refine hz_aloadn (pc := 194) 1 (hz_dec kX12_told 86 rfl) rfl ?_
          refine hz_get (pc := 195) (v := .ref (B + 19)) (hz_dec kX12_told 87 rfl) fo_X12_68 hO1 h8 (by omega) (hF1.2 21 (by decide) (by decide)) ?_
          refine hz_iloadn (pc := 198) 2 (hz_dec kX12_told 88 rfl) rfl ?_
          refine hz_iald (pc := 199) (j := v) (hz_dec kX12_told 89 rfl) hE1.a19 (by omega) (by omega) rfl (by omega) (by decide) ?_
          refine hz_eqi (pc := 200) p4 ?_
          exact hz_iret (pc := 200) (hz_dec kX12_told 90 rfl) rfl ⟨by rw [e8], rfl, hf1.S rfl, hR1⟩
        · skip
          have e8 := fu8n h8_
          refine hz_bipush (pc := 189) (v := (-4)) (hz_dec kX12_told 84 rfl) (by decide) ?_
          refine hz_goto (pc := 191) (tgt := 200) (hz_dec kX12_told 85 rfl) (by decide) ?_
          exact hz_iret (pc := 200) (hz_dec kX12_told 90 rfl) rfl ⟨by rw [e8], rfl, hf1.S rfl, hR1⟩
      · skip
        exact absurd hq4 (by decide)
    · skip
      exact absurd hq3 (by decide)
set_option maxHeartbeats 4000000 in
set_option maxRecDepth 100000 in
theorem c_toldU9 {κ : hz_C} {z : Nat} {M : hz_M} {H : ho_H} (hz : 63 + 34 * (hoN H).length ≤ z) (hnn : (hoN H).length ≤ 6) (hT4 : (hoT H).length ≤ 4000) {ll : Nat} {fr kn : Int32} (hR : hcR M z H ll fr kn) {v : Nat} (hv : v < (hoN H).length) {N : nd_N} (hN : ndL (hoN H) v = N) (hup : N.2.1 = true) (hI : ksI N.1) : hz_Mt κ xX11_told 4 0 0 [.ref 8, .int (nI v), .int (nI 9)] z M (hcP M z H (.int (N.2.2.1)) H) := by
  refine hz_ent (lo := [(0, .ref 8), (1, .int (nI v)), (2, .int (nI 9))]) (by decide) (Nat.le_of_ble_eq_true rfl) rfl ?_
  have hH := hR.1
  have hNs := hR.2.1
  obtain ⟨hO, hQ, hD⟩ := id hR.2.2.2.2.1
  obtain ⟨g53, h53⟩ := hR.2.2.2.2.2.1
  have hJ := hR.2.2.2.1
  obtain ⟨g56, h56, hT56⟩ := hR.2.2.2.2.2.2.2.2.2.1
  have hdf := hR.2.2.2.2.2.2.2.2.2.2
  have hck : ck_k M z := hJ.2.2.2.2.2.2.2.1
  have hcs : ck_s M := hJ.2.2.2.2.2.2.2.2.1
  have hz63 : 63 ≤ z := by omega
  have hK := hR.2.2.1 v hv
  rw [hN] at hK
  obtain ⟨hn, ⟨gd, hgd, hgD⟩, hT, hC, hP, hL⟩ := id hK
  have hn : M (63 + 34 * v) = ndO (63 + 34 * v) (nI v) (nI 1) (nI (ksN N.1)) (pvI (ksF N.1)) N.2.2.1 N.2.2.2 := by rw [hup] at hn; exact hn
  have htO := hT.1
  have htR := hT.2.1.1
  rw [List.length_map] at htR
  obtain ⟨fb, fht, ftm, fbi, t5, t6, t7, t8, tX⟩ := id hT.2.2.2.1
  have hen : (enB (ksB N.1)).length = (ksB N.1).length := enB_len _
  have hcO := hC.1
  have hpO := hP.1.1
  rw [List.length_map] at hpO
  have hlO := hL.1.1
  have hb5 := hI.2.1
  have hb113 := hI.1.top.2.1
  refine hz_aloadn (pc := 0) 0 (hz_dec kX11_told 0 rfl) rfl ?_
  refine hz_iloadn (pc := 1) 1 (hz_dec kX11_told 1 rfl) rfl ?_
  refine hz_xV (pc := 2) (a := 8) (As := [.int (nI v)]) (st := []) (hz_dec kX11_told 2 rfl) co_X11_162 im_X11_nodeOf se_X11_nodeOf rfl hH (by omega) (by omega) (c_nOf hz63 hH hnn hNs (b := v) hv) rfl (by decide) ⟨Nat.le_refl _, Nat.le_refl _⟩ (Nat.le_of_ble_eq_true rfl) rfl ?_
  refine hz_astoren (pc := 5) (i := 3) (lo2 := [(3, .ref (63 + 34 * v)), (0, .ref 8), (1, .int (nI v)), (2, .int (nI 9))]) (hz_dec kX11_told 3 rfl) rfl (by decide) rfl ?_
  refine hz_aloadn (pc := 6) 0 (hz_dec kX11_told 4 rfl) rfl ?_
  refine hz_ifnull (pc := 7) (hz_dec kX11_told 5 rfl) ?_
  refine hz_iloadn (pc := 10) 3 (hz_dec kX11_told 6 rfl) rfl ?_
  refine hz_z_lt (pc := 11) (tgt := 20) (hz_dec kX11_told 7 rfl) (by decide) (by omega) ?_
  refine hz_iloadn (pc := 14) 3 (hz_dec kX11_told 8 rfl) rfl ?_
  refine hz_bipush (pc := 15) (v := nI 10) (hz_dec kX11_told 9 rfl) (by decide) ?_
  refine hz_n_le (pc := 17) (tgt := 22) (hz_dec kX11_told 10 rfl) (by decide) (by omega) (by omega) (fun hq2 => ?_) (fun hq2 => ?_)
  · skip
    refine hz_aloadn (pc := 22) 0 (hz_dec kX11_told 13 rfl) rfl ?_
    refine hz_get (pc := 23) (hz_dec kX11_told 14 rfl) fo_X11_166 hn (by omega) (by omega) rfl ?_
    refine hz_z_ne (pc := 26) (tgt := 43) (hz_dec kX11_told 15 rfl) (by decide) (by omega) (fun hq3 => ?_) (fun hq3 => ?_)
    · skip
      refine hz_iloadn (pc := 43) 3 (hz_dec kX11_told 24 rfl) rfl ?_
      refine hz_swIn (pc := 44) (off := 150) (tgt := 194) (hz_dec kX11_told 25 rfl) (by decide) (by decide) rfl (by decide) ?_
      refine hz_aloadn (pc := 194) 0 (hz_dec kX11_told 73 rfl) rfl ?_
      refine hz_get (pc := 195) (hz_dec kX11_told 74 rfl) fo_X11_327 hn (by omega) (by omega) rfl ?_
      exact hz_iret (pc := 198) (hz_dec kX11_told 75 rfl) rfl (hcP.no hR _)
    · skip
      exact absurd hq3 (by decide)
  · skip
    exact absurd hq2 (by decide)
set_option maxHeartbeats 4000000 in
set_option maxRecDepth 100000 in
theorem c_rtoldU9 {κ : hz_C} {z B : Nat} {M : hz_M} {H : ho_H} (hnn : (hoN H).length ≤ 6) (hT4 : (hoT H).length ≤ 4000) (hR : hmR M z B H) {v : Nat} (hv : v < (hoN H).length) {N : nd_N} (hN : ndL (hoN H) v = N) (hup : N.2.1 = true) (hI : ksI N.1) : hz_Mt κ xX12_told 4 0 0 [.ref B, .int (nI v), .int (nI 9)] z M (hmP M z B (.int (N.2.2.1)) H) := by
  refine hz_ent (lo := [(0, .ref B), (1, .int (nI v)), (2, .int (nI 9))]) (by decide) (Nat.le_of_ble_eq_true rfl) rfl ?_
  obtain ⟨hk0_, hE0, ⟨m1, m2, m3⟩, hNd, a5, a6, a7, a8⟩ := id hR
  obtain ⟨⟨fs, hO, hF⟩, -, -, h8, hz⟩ := id hk0_
  obtain ⟨x1, x3, x4, x5, x6, x7, x8⟩ := id m3
  have eSt : stI (ndL (hoN H) v).2.1 = nI 0 := by rw [hN, hup]; rfl
  refine hz_aloadn (pc := 0) 0 (hz_dec kX12_told 0 rfl) rfl ?_
  refine hz_iconst (pc := 1) (v := nI 0) (hz_dec kX12_told 1 rfl) (by decide) ?_
  refine hz_puti (pc := 2) (hz_dec kX12_told 2 rfl) fo_X12_302 ft_X12_0 hO h8 (by omega) (by rw [hF.1]; decide) ?_
  have hf1 : mfr B [0, 89] [] M (va_up M B (.inr (12, (List.set fs 0 (.int (nI 0)))))) := (mfr.rf ⟨fs, hO, hF⟩).upO (k := 0) hO hF rfl rfl
  have hR1 : hmR (va_up M B (.inr (12, (List.set fs 0 (.int (nI 0)))))) z B H := hR.m0 hf1 hE0.upO ((fdB_of (va_up_self _ _ _) 89).trans ((List.getElem?_set_ne (by decide)).trans ((fdB_of hO 89).symm.trans x8)))
  generalize (va_up M B (.inr (12, (List.set fs 0 (.int (nI 0)))))) = M1 at *
  obtain ⟨hk1, hE1, ⟨n1, d1, q1⟩, hNd1, a51, a61, a71, a81⟩ := id hR1
  obtain ⟨⟨fs1, hO1, hF1⟩, -, -, -, -⟩ := id hk1
  have h0 : mdN M1 B v N := by have q := hNd1 v hv; rw [hN] at q; exact q
  have hv6 : v < 6 := by omega
  have h01 : mnS M1 B v 1 N.1 (pvI (ksF N.1)) (ksP N.1) := by have q := h0.1; rw [hup] at q; exact q
  have h02 : orX (fA M1 B) v (mkO (ksL N.1)) := by have q := h0.2.1; rw [hup] at q; exact q
  obtain ⟨p1, p2, p3, p4, ⟨p5a, p5b, p5c⟩, p6, p7, p9⟩ := id h01
  have hbp := hI.1.p hI.2.1
  obtain ⟨b1, b2, b3, b4, b5, b6, b7, b8⟩ := id hbp
  refine hz_aloadn (pc := 5) 0 (hz_dec kX12_told 3 rfl) rfl ?_
  refine hz_iloadn (pc := 6) 1 (hz_dec kX12_told 4 rfl) rfl ?_
  refine hz_xV (pc := 7) (a := B) (As := [.int (nI v)]) (st := []) (hz_dec kX12_told 5 rfl) co_X12_692 im_X12_stateOf se_X12_stateOf rfl hO1 h8 (by omega) (c_st hnn hR1 hv) rfl (by decide) ⟨Nat.le_refl _, Nat.le_refl _⟩ (Nat.le_of_ble_eq_true rfl) rfl ?_
  refine hz_eqi (pc := 10) eSt ?_
  refine hz_istoren (pc := 10) (i := 3) (lo2 := [(3, .int (nI 0)), (0, .ref B), (1, .int (nI v)), (2, .int (nI 9))]) (hz_dec kX12_told 6 rfl) rfl (by decide) rfl ?_
  refine hz_iloadn (pc := 11) 0 (hz_dec kX12_told 7 rfl) rfl ?_
  refine hz_iconst (pc := 12) (v := (-1)) (hz_dec kX12_told 8 rfl) (by decide) ?_
  refine hz_icmp_eq (pc := 13) (tgt := 26) (hz_dec kX12_told 9 rfl) (by decide) (fun hq1 => ?_) (fun hq1 => ?_)
  · skip
    exact absurd hq1 (by decide)
  · skip
    refine hz_iloadn (pc := 16) 3 (hz_dec kX12_told 10 rfl) rfl ?_
    refine hz_z_lt (pc := 17) (tgt := 26) (hz_dec kX12_told 11 rfl) (by decide) (by omega) ?_
    refine hz_iloadn (pc := 20) 3 (hz_dec kX12_told 12 rfl) rfl ?_
    refine hz_bipush (pc := 21) (v := nI 10) (hz_dec kX12_told 13 rfl) (by decide) ?_
    refine hz_n_le (pc := 23) (tgt := 28) (hz_dec kX12_told 14 rfl) (by decide) (by omega) (by omega) (fun hq3 => ?_) (fun hq3 => ?_)
    · skip
      refine hz_iloadn (pc := 28) 0 (hz_dec kX12_told 17 rfl) rfl ?_
      refine hz_bipush (pc := 29) (v := (-2)) (hz_dec kX12_told 18 rfl) (by decide) ?_
      refine hz_icmp_ne (pc := 31) (tgt := 47) (hz_dec kX12_told 19 rfl) (by decide) (fun hq4 => ?_) (fun hq4 => ?_)
      · skip
        refine hz_iloadn (pc := 47) 3 (hz_dec kX12_told 27 rfl) rfl ?_
        refine hz_swIn (pc := 48) (off := 153) (tgt := 201) (hz_dec kX12_told 28 rfl) (by decide) (by decide) rfl (by decide) ?_
        refine hz_aloadn (pc := 201) 1 (hz_dec kX12_told 91 rfl) rfl ?_
        refine hz_get (pc := 202) (v := .ref (B + 22)) (hz_dec kX12_told 92 rfl) fo_X12_77 hO1 h8 (by omega) (hF1.2 24 (by decide) (by decide)) ?_
        refine hz_iloadn (pc := 205) 2 (hz_dec kX12_told 93 rfl) rfl ?_
        refine hz_iald (pc := 206) (j := v) (hz_dec kX12_told 94 rfl) hE1.a22 (by omega) (by omega) rfl (by omega) (by decide) ?_
        refine hz_eqi (pc := 207) h0.2.2.1 ?_
        exact hz_iret (pc := 207) (hz_dec kX12_told 95 rfl) rfl ⟨rfl, rfl, hf1.S rfl, hR1⟩
      · skip
        exact absurd hq4 (by decide)
    · skip
      exact absurd hq3 (by decide)
set_option maxHeartbeats 4000000 in
set_option maxRecDepth 100000 in
theorem c_toldU10 {κ : hz_C} {z : Nat} {M : hz_M} {H : ho_H} (hz : 63 + 34 * (hoN H).length ≤ z) (hnn : (hoN H).length ≤ 6) (hT4 : (hoT H).length ≤ 4000) {ll : Nat} {fr kn : Int32} (hR : hcR M z H ll fr kn) {v : Nat} (hv : v < (hoN H).length) {N : nd_N} (hN : ndL (hoN H) v = N) (hup : N.2.1 = true) (hI : ksI N.1) : hz_Mt κ xX11_told 4 0 0 [.ref 8, .int (nI v), .int (nI 10)] z M (hcP M z H (.int (N.2.2.2)) H) := by
  refine hz_ent (lo := [(0, .ref 8), (1, .int (nI v)), (2, .int (nI 10))]) (by decide) (Nat.le_of_ble_eq_true rfl) rfl ?_
  have hH := hR.1
  have hNs := hR.2.1
  obtain ⟨hO, hQ, hD⟩ := id hR.2.2.2.2.1
  obtain ⟨g53, h53⟩ := hR.2.2.2.2.2.1
  have hJ := hR.2.2.2.1
  obtain ⟨g56, h56, hT56⟩ := hR.2.2.2.2.2.2.2.2.2.1
  have hdf := hR.2.2.2.2.2.2.2.2.2.2
  have hck : ck_k M z := hJ.2.2.2.2.2.2.2.1
  have hcs : ck_s M := hJ.2.2.2.2.2.2.2.2.1
  have hz63 : 63 ≤ z := by omega
  have hK := hR.2.2.1 v hv
  rw [hN] at hK
  obtain ⟨hn, ⟨gd, hgd, hgD⟩, hT, hC, hP, hL⟩ := id hK
  have hn : M (63 + 34 * v) = ndO (63 + 34 * v) (nI v) (nI 1) (nI (ksN N.1)) (pvI (ksF N.1)) N.2.2.1 N.2.2.2 := by rw [hup] at hn; exact hn
  have htO := hT.1
  have htR := hT.2.1.1
  rw [List.length_map] at htR
  obtain ⟨fb, fht, ftm, fbi, t5, t6, t7, t8, tX⟩ := id hT.2.2.2.1
  have hen : (enB (ksB N.1)).length = (ksB N.1).length := enB_len _
  have hcO := hC.1
  have hpO := hP.1.1
  rw [List.length_map] at hpO
  have hlO := hL.1.1
  have hb5 := hI.2.1
  have hb113 := hI.1.top.2.1
  refine hz_aloadn (pc := 0) 0 (hz_dec kX11_told 0 rfl) rfl ?_
  refine hz_iloadn (pc := 1) 1 (hz_dec kX11_told 1 rfl) rfl ?_
  refine hz_xV (pc := 2) (a := 8) (As := [.int (nI v)]) (st := []) (hz_dec kX11_told 2 rfl) co_X11_162 im_X11_nodeOf se_X11_nodeOf rfl hH (by omega) (by omega) (c_nOf hz63 hH hnn hNs (b := v) hv) rfl (by decide) ⟨Nat.le_refl _, Nat.le_refl _⟩ (Nat.le_of_ble_eq_true rfl) rfl ?_
  refine hz_astoren (pc := 5) (i := 3) (lo2 := [(3, .ref (63 + 34 * v)), (0, .ref 8), (1, .int (nI v)), (2, .int (nI 10))]) (hz_dec kX11_told 3 rfl) rfl (by decide) rfl ?_
  refine hz_aloadn (pc := 6) 0 (hz_dec kX11_told 4 rfl) rfl ?_
  refine hz_ifnull (pc := 7) (hz_dec kX11_told 5 rfl) ?_
  refine hz_iloadn (pc := 10) 3 (hz_dec kX11_told 6 rfl) rfl ?_
  refine hz_z_lt (pc := 11) (tgt := 20) (hz_dec kX11_told 7 rfl) (by decide) (by omega) ?_
  refine hz_iloadn (pc := 14) 3 (hz_dec kX11_told 8 rfl) rfl ?_
  refine hz_bipush (pc := 15) (v := nI 10) (hz_dec kX11_told 9 rfl) (by decide) ?_
  refine hz_n_le (pc := 17) (tgt := 22) (hz_dec kX11_told 10 rfl) (by decide) (by omega) (by omega) (fun hq2 => ?_) (fun hq2 => ?_)
  · skip
    refine hz_aloadn (pc := 22) 0 (hz_dec kX11_told 13 rfl) rfl ?_
    refine hz_get (pc := 23) (hz_dec kX11_told 14 rfl) fo_X11_166 hn (by omega) (by omega) rfl ?_
    refine hz_z_ne (pc := 26) (tgt := 43) (hz_dec kX11_told 15 rfl) (by decide) (by omega) (fun hq3 => ?_) (fun hq3 => ?_)
    · skip
      refine hz_iloadn (pc := 43) 3 (hz_dec kX11_told 24 rfl) rfl ?_
      refine hz_swOut (pc := 44) (tgt := 199) (hz_dec kX11_told 25 rfl) (Or.inr (by decide)) (by decide) ?_
      refine hz_aloadn (pc := 199) 0 (hz_dec kX11_told 76 rfl) rfl ?_
      refine hz_get (pc := 200) (hz_dec kX11_told 77 rfl) fo_X11_336 hn (by omega) (by omega) rfl ?_
      exact hz_iret (pc := 203) (hz_dec kX11_told 78 rfl) rfl (hcP.no hR _)
    · skip
      exact absurd hq3 (by decide)
  · skip
    exact absurd hq2 (by decide)
set_option maxHeartbeats 4000000 in
set_option maxRecDepth 100000 in
theorem c_rtoldU10 {κ : hz_C} {z B : Nat} {M : hz_M} {H : ho_H} (hnn : (hoN H).length ≤ 6) (hT4 : (hoT H).length ≤ 4000) (hR : hmR M z B H) {v : Nat} (hv : v < (hoN H).length) {N : nd_N} (hN : ndL (hoN H) v = N) (hup : N.2.1 = true) (hI : ksI N.1) : hz_Mt κ xX12_told 4 0 0 [.ref B, .int (nI v), .int (nI 10)] z M (hmP M z B (.int (N.2.2.2)) H) := by
  refine hz_ent (lo := [(0, .ref B), (1, .int (nI v)), (2, .int (nI 10))]) (by decide) (Nat.le_of_ble_eq_true rfl) rfl ?_
  obtain ⟨hk0_, hE0, ⟨m1, m2, m3⟩, hNd, a5, a6, a7, a8⟩ := id hR
  obtain ⟨⟨fs, hO, hF⟩, -, -, h8, hz⟩ := id hk0_
  obtain ⟨x1, x3, x4, x5, x6, x7, x8⟩ := id m3
  have eSt : stI (ndL (hoN H) v).2.1 = nI 0 := by rw [hN, hup]; rfl
  refine hz_aloadn (pc := 0) 0 (hz_dec kX12_told 0 rfl) rfl ?_
  refine hz_iconst (pc := 1) (v := nI 0) (hz_dec kX12_told 1 rfl) (by decide) ?_
  refine hz_puti (pc := 2) (hz_dec kX12_told 2 rfl) fo_X12_302 ft_X12_0 hO h8 (by omega) (by rw [hF.1]; decide) ?_
  have hf1 : mfr B [0, 89] [] M (va_up M B (.inr (12, (List.set fs 0 (.int (nI 0)))))) := (mfr.rf ⟨fs, hO, hF⟩).upO (k := 0) hO hF rfl rfl
  have hR1 : hmR (va_up M B (.inr (12, (List.set fs 0 (.int (nI 0)))))) z B H := hR.m0 hf1 hE0.upO ((fdB_of (va_up_self _ _ _) 89).trans ((List.getElem?_set_ne (by decide)).trans ((fdB_of hO 89).symm.trans x8)))
  generalize (va_up M B (.inr (12, (List.set fs 0 (.int (nI 0)))))) = M1 at *
  obtain ⟨hk1, hE1, ⟨n1, d1, q1⟩, hNd1, a51, a61, a71, a81⟩ := id hR1
  obtain ⟨⟨fs1, hO1, hF1⟩, -, -, -, -⟩ := id hk1
  have h0 : mdN M1 B v N := by have q := hNd1 v hv; rw [hN] at q; exact q
  have hv6 : v < 6 := by omega
  have h01 : mnS M1 B v 1 N.1 (pvI (ksF N.1)) (ksP N.1) := by have q := h0.1; rw [hup] at q; exact q
  have h02 : orX (fA M1 B) v (mkO (ksL N.1)) := by have q := h0.2.1; rw [hup] at q; exact q
  obtain ⟨p1, p2, p3, p4, ⟨p5a, p5b, p5c⟩, p6, p7, p9⟩ := id h01
  have hbp := hI.1.p hI.2.1
  obtain ⟨b1, b2, b3, b4, b5, b6, b7, b8⟩ := id hbp
  refine hz_aloadn (pc := 5) 0 (hz_dec kX12_told 3 rfl) rfl ?_
  refine hz_iloadn (pc := 6) 1 (hz_dec kX12_told 4 rfl) rfl ?_
  refine hz_xV (pc := 7) (a := B) (As := [.int (nI v)]) (st := []) (hz_dec kX12_told 5 rfl) co_X12_692 im_X12_stateOf se_X12_stateOf rfl hO1 h8 (by omega) (c_st hnn hR1 hv) rfl (by decide) ⟨Nat.le_refl _, Nat.le_refl _⟩ (Nat.le_of_ble_eq_true rfl) rfl ?_
  refine hz_eqi (pc := 10) eSt ?_
  refine hz_istoren (pc := 10) (i := 3) (lo2 := [(3, .int (nI 0)), (0, .ref B), (1, .int (nI v)), (2, .int (nI 10))]) (hz_dec kX12_told 6 rfl) rfl (by decide) rfl ?_
  refine hz_iloadn (pc := 11) 0 (hz_dec kX12_told 7 rfl) rfl ?_
  refine hz_iconst (pc := 12) (v := (-1)) (hz_dec kX12_told 8 rfl) (by decide) ?_
  refine hz_icmp_eq (pc := 13) (tgt := 26) (hz_dec kX12_told 9 rfl) (by decide) (fun hq1 => ?_) (fun hq1 => ?_)
  · skip
    exact absurd hq1 (by decide)
  · skip
    refine hz_iloadn (pc := 16) 3 (hz_dec kX12_told 10 rfl) rfl ?_
    refine hz_z_lt (pc := 17) (tgt := 26) (hz_dec kX12_told 11 rfl) (by decide) (by omega) ?_
    refine hz_iloadn (pc := 20) 3 (hz_dec kX12_told 12 rfl) rfl ?_
    refine hz_bipush (pc := 21) (v := nI 10) (hz_dec kX12_told 13 rfl) (by decide) ?_
    refine hz_n_le (pc := 23) (tgt := 28) (hz_dec kX12_told 14 rfl) (by decide) (by omega) (by omega) (fun hq3 => ?_) (fun hq3 => ?_)
    · skip
      refine hz_iloadn (pc := 28) 0 (hz_dec kX12_told 17 rfl) rfl ?_
      refine hz_bipush (pc := 29) (v := (-2)) (hz_dec kX12_told 18 rfl) (by decide) ?_
      refine hz_icmp_ne (pc := 31) (tgt := 47) (hz_dec kX12_told 19 rfl) (by decide) (fun hq4 => ?_) (fun hq4 => ?_)
      · skip
        refine hz_iloadn (pc := 47) 3 (hz_dec kX12_told 27 rfl) rfl ?_
        refine hz_swOut (pc := 48) (tgt := 208) (hz_dec kX12_told 28 rfl) (Or.inr (by decide)) (by decide) ?_
        refine hz_aloadn (pc := 208) 1 (hz_dec kX12_told 96 rfl) rfl ?_
        refine hz_get (pc := 209) (v := .ref (B + 23)) (hz_dec kX12_told 97 rfl) fo_X12_80 hO1 h8 (by omega) (hF1.2 25 (by decide) (by decide)) ?_
        refine hz_iloadn (pc := 212) 2 (hz_dec kX12_told 98 rfl) rfl ?_
        refine hz_iald (pc := 213) (j := v) (hz_dec kX12_told 99 rfl) hE1.a23 (by omega) (by omega) rfl (by omega) (by decide) ?_
        refine hz_eqi (pc := 214) h0.2.2.2 ?_
        exact hz_iret (pc := 214) (hz_dec kX12_told 100 rfl) rfl ⟨rfl, rfl, hf1.S rfl, hR1⟩
      · skip
        exact absurd hq4 (by decide)
    · skip
      exact absurd hq3 (by decide)
set_option maxHeartbeats 4000000 in
set_option maxRecDepth 100000 in
theorem c_toldD0 {κ : hz_C} {z : Nat} {M : hz_M} {H : ho_H} (hz : 63 + 34 * (hoN H).length ≤ z) (hnn : (hoN H).length ≤ 6) (hT4 : (hoT H).length ≤ 4000) {ll : Nat} {fr kn : Int32} (hR : hcR M z H ll fr kn) {v : Nat} (hv : v < (hoN H).length) {N : nd_N} (hN : ndL (hoN H) v = N) (hup : N.2.1 = false) : hz_Mt κ xX11_told 4 0 0 [.ref 8, .int (nI v), .int (nI 0)] z M (hcP M z H (.int (nI 0)) H) := by
  refine hz_ent (lo := [(0, .ref 8), (1, .int (nI v)), (2, .int (nI 0))]) (by decide) (Nat.le_of_ble_eq_true rfl) rfl ?_
  have hH := hR.1
  have hNs := hR.2.1
  obtain ⟨hO, hQ, hD⟩ := id hR.2.2.2.2.1
  obtain ⟨g53, h53⟩ := hR.2.2.2.2.2.1
  have hJ := hR.2.2.2.1
  obtain ⟨g56, h56, hT56⟩ := hR.2.2.2.2.2.2.2.2.2.1
  have hdf := hR.2.2.2.2.2.2.2.2.2.2
  have hck : ck_k M z := hJ.2.2.2.2.2.2.2.1
  have hcs : ck_s M := hJ.2.2.2.2.2.2.2.2.1
  have hz63 : 63 ≤ z := by omega
  have hK := hR.2.2.1 v hv
  rw [hN] at hK
  obtain ⟨hn, ⟨gd, hgd, hgD⟩, hT, hC, hP, hL⟩ := id hK
  have hn : M (63 + 34 * v) = ndO (63 + 34 * v) (nI v) (nI 0) (nI (ksN N.1)) (pvI (ksF N.1)) N.2.2.1 N.2.2.2 := by rw [hup] at hn; exact hn
  refine hz_aloadn (pc := 0) 0 (hz_dec kX11_told 0 rfl) rfl ?_
  refine hz_iloadn (pc := 1) 1 (hz_dec kX11_told 1 rfl) rfl ?_
  refine hz_xV (pc := 2) (a := 8) (As := [.int (nI v)]) (st := []) (hz_dec kX11_told 2 rfl) co_X11_162 im_X11_nodeOf se_X11_nodeOf rfl hH (by omega) (by omega) (c_nOf hz63 hH hnn hNs (b := v) hv) rfl (by decide) ⟨Nat.le_refl _, Nat.le_refl _⟩ (Nat.le_of_ble_eq_true rfl) rfl ?_
  refine hz_astoren (pc := 5) (i := 3) (lo2 := [(3, .ref (63 + 34 * v)), (0, .ref 8), (1, .int (nI v)), (2, .int (nI 0))]) (hz_dec kX11_told 3 rfl) rfl (by decide) rfl ?_
  refine hz_aloadn (pc := 6) 0 (hz_dec kX11_told 4 rfl) rfl ?_
  refine hz_ifnull (pc := 7) (hz_dec kX11_told 5 rfl) ?_
  refine hz_iloadn (pc := 10) 3 (hz_dec kX11_told 6 rfl) rfl ?_
  refine hz_z_lt (pc := 11) (tgt := 20) (hz_dec kX11_told 7 rfl) (by decide) (by omega) ?_
  refine hz_iloadn (pc := 14) 3 (hz_dec kX11_told 8 rfl) rfl ?_
  refine hz_bipush (pc := 15) (v := nI 10) (hz_dec kX11_told 9 rfl) (by decide) ?_
  refine hz_n_le (pc := 17) (tgt := 22) (hz_dec kX11_told 10 rfl) (by decide) (by omega) (by omega) (fun hq2 => ?_) (fun hq2 => ?_)
  · skip
    refine hz_aloadn (pc := 22) 0 (hz_dec kX11_told 13 rfl) rfl ?_
    refine hz_get (pc := 23) (hz_dec kX11_told 14 rfl) fo_X11_166 hn (by omega) (by omega) rfl ?_
    refine hz_z_ne (pc := 26) (tgt := 43) (hz_dec kX11_told 15 rfl) (by decide) (by omega) (fun hq3 => ?_) (fun hq3 => ?_)
    · skip
      exact absurd hq3 (by decide)
    · skip
      refine hz_iloadn (pc := 29) 3 (hz_dec kX11_told 16 rfl) rfl ?_
      refine hz_iconst (pc := 30) (v := nI 1) (hz_dec kX11_told 17 rfl) (by decide) ?_
      refine hz_n_lt (pc := 31) (tgt := 43) (hz_dec kX11_told 18 rfl) (by decide) (by omega) (by omega) (fun hq4 => ?_) (fun hq4 => ?_)
      · skip
        refine hz_iloadn (pc := 43) 3 (hz_dec kX11_told 24 rfl) rfl ?_
        refine hz_swIn (pc := 44) (off := 56) (tgt := 100) (hz_dec kX11_told 25 rfl) (by decide) (by decide) rfl (by decide) ?_
        refine hz_aloadn (pc := 100) 0 (hz_dec kX11_told 26 rfl) rfl ?_
        refine hz_get (pc := 101) (hz_dec kX11_told 27 rfl) fo_X11_166 hn (by omega) (by omega) rfl ?_
        refine hz_z_eq (pc := 104) (tgt := 111) (hz_dec kX11_told 28 rfl) (by decide) (by omega) (fun hq5 => ?_) (fun hq5 => ?_)
        · skip
          refine hz_iconst (pc := 111) (v := nI 0) (hz_dec kX11_told 31 rfl) (by decide) ?_
          exact hz_iret (pc := 112) (hz_dec kX11_told 32 rfl) rfl (hcP.no hR _)
        · skip
          exact absurd hq5 (by decide)
      · skip
        exact absurd hq4 (by decide)
  · skip
    exact absurd hq2 (by decide)
set_option maxHeartbeats 4000000 in
set_option maxRecDepth 100000 in
theorem c_rtoldD0 {κ : hz_C} {z B : Nat} {M : hz_M} {H : ho_H} (hnn : (hoN H).length ≤ 6) (hT4 : (hoT H).length ≤ 4000) (hR : hmR M z B H) {v : Nat} (hv : v < (hoN H).length) {N : nd_N} (hN : ndL (hoN H) v = N) (hup : N.2.1 = false) : hz_Mt κ xX12_told 4 0 0 [.ref B, .int (nI v), .int (nI 0)] z M (hmP M z B (.int (nI 0)) H) := by
  refine hz_ent (lo := [(0, .ref B), (1, .int (nI v)), (2, .int (nI 0))]) (by decide) (Nat.le_of_ble_eq_true rfl) rfl ?_
  obtain ⟨hk0_, hE0, ⟨m1, m2, m3⟩, hNd, a5, a6, a7, a8⟩ := id hR
  obtain ⟨⟨fs, hO, hF⟩, -, -, h8, hz⟩ := id hk0_
  obtain ⟨x1, x3, x4, x5, x6, x7, x8⟩ := id m3
  have eSt : stI (ndL (hoN H) v).2.1 = (-2) := by rw [hN, hup]; rfl
  refine hz_aloadn (pc := 0) 0 (hz_dec kX12_told 0 rfl) rfl ?_
  refine hz_iconst (pc := 1) (v := nI 0) (hz_dec kX12_told 1 rfl) (by decide) ?_
  refine hz_puti (pc := 2) (hz_dec kX12_told 2 rfl) fo_X12_302 ft_X12_0 hO h8 (by omega) (by rw [hF.1]; decide) ?_
  have hf1 : mfr B [0, 89] [] M (va_up M B (.inr (12, (List.set fs 0 (.int (nI 0)))))) := (mfr.rf ⟨fs, hO, hF⟩).upO (k := 0) hO hF rfl rfl
  have hR1 : hmR (va_up M B (.inr (12, (List.set fs 0 (.int (nI 0)))))) z B H := hR.m0 hf1 hE0.upO ((fdB_of (va_up_self _ _ _) 89).trans ((List.getElem?_set_ne (by decide)).trans ((fdB_of hO 89).symm.trans x8)))
  generalize (va_up M B (.inr (12, (List.set fs 0 (.int (nI 0)))))) = M1 at *
  obtain ⟨hk1, hE1, ⟨n1, d1, q1⟩, hNd1, a51, a61, a71, a81⟩ := id hR1
  obtain ⟨⟨fs1, hO1, hF1⟩, -, -, -, -⟩ := id hk1
  have h0 : mdN M1 B v N := by have q := hNd1 v hv; rw [hN] at q; exact q
  have hv6 : v < 6 := by omega
  refine hz_aloadn (pc := 5) 0 (hz_dec kX12_told 3 rfl) rfl ?_
  refine hz_iloadn (pc := 6) 1 (hz_dec kX12_told 4 rfl) rfl ?_
  refine hz_xV (pc := 7) (a := B) (As := [.int (nI v)]) (st := []) (hz_dec kX12_told 5 rfl) co_X12_692 im_X12_stateOf se_X12_stateOf rfl hO1 h8 (by omega) (c_st hnn hR1 hv) rfl (by decide) ⟨Nat.le_refl _, Nat.le_refl _⟩ (Nat.le_of_ble_eq_true rfl) rfl ?_
  refine hz_eqi (pc := 10) eSt ?_
  refine hz_istoren (pc := 10) (i := 3) (lo2 := [(3, .int (-2)), (0, .ref B), (1, .int (nI v)), (2, .int (nI 0))]) (hz_dec kX12_told 6 rfl) rfl (by decide) rfl ?_
  refine hz_iloadn (pc := 11) 0 (hz_dec kX12_told 7 rfl) rfl ?_
  refine hz_iconst (pc := 12) (v := (-1)) (hz_dec kX12_told 8 rfl) (by decide) ?_
  refine hz_icmp_eq (pc := 13) (tgt := 26) (hz_dec kX12_told 9 rfl) (by decide) (fun hq1 => ?_) (fun hq1 => ?_)
  · skip
    exact absurd hq1 (by decide)
  · skip
    refine hz_iloadn (pc := 16) 3 (hz_dec kX12_told 10 rfl) rfl ?_
    refine hz_z_lt (pc := 17) (tgt := 26) (hz_dec kX12_told 11 rfl) (by decide) (by omega) ?_
    refine hz_iloadn (pc := 20) 3 (hz_dec kX12_told 12 rfl) rfl ?_
    refine hz_bipush (pc := 21) (v := nI 10) (hz_dec kX12_told 13 rfl) (by decide) ?_
    refine hz_n_le (pc := 23) (tgt := 28) (hz_dec kX12_told 14 rfl) (by decide) (by omega) (by omega) (fun hq3 => ?_) (fun hq3 => ?_)
    · skip
      refine hz_iloadn (pc := 28) 0 (hz_dec kX12_told 17 rfl) rfl ?_
      refine hz_bipush (pc := 29) (v := (-2)) (hz_dec kX12_told 18 rfl) (by decide) ?_
      refine hz_icmp_ne (pc := 31) (tgt := 47) (hz_dec kX12_told 19 rfl) (by decide) (fun hq4 => ?_) (fun hq4 => ?_)
      · skip
        exact absurd hq4 (by decide)
      · skip
        refine hz_iloadn (pc := 34) 3 (hz_dec kX12_told 20 rfl) rfl ?_
        refine hz_z_le (pc := 35) (tgt := 47) (hz_dec kX12_told 21 rfl) (by decide) (by omega) (fun hq5 => ?_) (fun hq5 => ?_)
        · skip
          refine hz_iloadn (pc := 47) 3 (hz_dec kX12_told 27 rfl) rfl ?_
          refine hz_swIn (pc := 48) (off := 56) (tgt := 104) (hz_dec kX12_told 28 rfl) (by decide) (by decide) rfl (by decide) ?_
          refine hz_iloadn (pc := 104) 0 (hz_dec kX12_told 29 rfl) rfl ?_
          refine hz_if_ne (pc := 105) (tgt := 112) (hz_dec kX12_told 30 rfl) (by decide) (fun hq6 => ?_) (fun hq6 => ?_)
          · skip
            refine hz_iconst (pc := 112) (v := nI 0) (hz_dec kX12_told 33 rfl) (by decide) ?_
            exact hz_iret (pc := 113) (hz_dec kX12_told 34 rfl) rfl ⟨rfl, rfl, hf1.S rfl, hR1⟩
          · skip
            exact absurd hq6 (by decide)
        · skip
          exact absurd hq5 (by decide)
    · skip
      exact absurd hq3 (by decide)
set_option maxHeartbeats 4000000 in
set_option maxRecDepth 100000 in
theorem c_toldD1 {κ : hz_C} {z : Nat} {M : hz_M} {H : ho_H} (hz : 63 + 34 * (hoN H).length ≤ z) (hnn : (hoN H).length ≤ 6) (hT4 : (hoT H).length ≤ 4000) {ll : Nat} {fr kn : Int32} (hR : hcR M z H ll fr kn) {v : Nat} (hv : v < (hoN H).length) {N : nd_N} (hN : ndL (hoN H) v = N) (hup : N.2.1 = false) : hz_Mt κ xX11_told 4 0 0 [.ref 8, .int (nI v), .int (nI 1)] z M (hcP M z H (.int (-4)) H) := by
  refine hz_ent (lo := [(0, .ref 8), (1, .int (nI v)), (2, .int (nI 1))]) (by decide) (Nat.le_of_ble_eq_true rfl) rfl ?_
  have hH := hR.1
  have hNs := hR.2.1
  obtain ⟨hO, hQ, hD⟩ := id hR.2.2.2.2.1
  obtain ⟨g53, h53⟩ := hR.2.2.2.2.2.1
  have hJ := hR.2.2.2.1
  obtain ⟨g56, h56, hT56⟩ := hR.2.2.2.2.2.2.2.2.2.1
  have hdf := hR.2.2.2.2.2.2.2.2.2.2
  have hck : ck_k M z := hJ.2.2.2.2.2.2.2.1
  have hcs : ck_s M := hJ.2.2.2.2.2.2.2.2.1
  have hz63 : 63 ≤ z := by omega
  have hK := hR.2.2.1 v hv
  rw [hN] at hK
  obtain ⟨hn, ⟨gd, hgd, hgD⟩, hT, hC, hP, hL⟩ := id hK
  have hn : M (63 + 34 * v) = ndO (63 + 34 * v) (nI v) (nI 0) (nI (ksN N.1)) (pvI (ksF N.1)) N.2.2.1 N.2.2.2 := by rw [hup] at hn; exact hn
  refine hz_aloadn (pc := 0) 0 (hz_dec kX11_told 0 rfl) rfl ?_
  refine hz_iloadn (pc := 1) 1 (hz_dec kX11_told 1 rfl) rfl ?_
  refine hz_xV (pc := 2) (a := 8) (As := [.int (nI v)]) (st := []) (hz_dec kX11_told 2 rfl) co_X11_162 im_X11_nodeOf se_X11_nodeOf rfl hH (by omega) (by omega) (c_nOf hz63 hH hnn hNs (b := v) hv) rfl (by decide) ⟨Nat.le_refl _, Nat.le_refl _⟩ (Nat.le_of_ble_eq_true rfl) rfl ?_
  refine hz_astoren (pc := 5) (i := 3) (lo2 := [(3, .ref (63 + 34 * v)), (0, .ref 8), (1, .int (nI v)), (2, .int (nI 1))]) (hz_dec kX11_told 3 rfl) rfl (by decide) rfl ?_
  refine hz_aloadn (pc := 6) 0 (hz_dec kX11_told 4 rfl) rfl ?_
  refine hz_ifnull (pc := 7) (hz_dec kX11_told 5 rfl) ?_
  refine hz_iloadn (pc := 10) 3 (hz_dec kX11_told 6 rfl) rfl ?_
  refine hz_z_lt (pc := 11) (tgt := 20) (hz_dec kX11_told 7 rfl) (by decide) (by omega) ?_
  refine hz_iloadn (pc := 14) 3 (hz_dec kX11_told 8 rfl) rfl ?_
  refine hz_bipush (pc := 15) (v := nI 10) (hz_dec kX11_told 9 rfl) (by decide) ?_
  refine hz_n_le (pc := 17) (tgt := 22) (hz_dec kX11_told 10 rfl) (by decide) (by omega) (by omega) (fun hq2 => ?_) (fun hq2 => ?_)
  · skip
    refine hz_aloadn (pc := 22) 0 (hz_dec kX11_told 13 rfl) rfl ?_
    refine hz_get (pc := 23) (hz_dec kX11_told 14 rfl) fo_X11_166 hn (by omega) (by omega) rfl ?_
    refine hz_z_ne (pc := 26) (tgt := 43) (hz_dec kX11_told 15 rfl) (by decide) (by omega) (fun hq3 => ?_) (fun hq3 => ?_)
    · skip
      exact absurd hq3 (by decide)
    · skip
      refine hz_iloadn (pc := 29) 3 (hz_dec kX11_told 16 rfl) rfl ?_
      refine hz_iconst (pc := 30) (v := nI 1) (hz_dec kX11_told 17 rfl) (by decide) ?_
      refine hz_n_lt (pc := 31) (tgt := 43) (hz_dec kX11_told 18 rfl) (by decide) (by omega) (by omega) (fun hq4 => ?_) (fun hq4 => ?_)
      · skip
        exact absurd hq4 (by decide)
      · skip
        refine hz_iloadn (pc := 34) 3 (hz_dec kX11_told 19 rfl) rfl ?_
        refine hz_bipush (pc := 35) (v := nI 8) (hz_dec kX11_told 20 rfl) (by decide) ?_
        refine hz_n_gt (pc := 37) (tgt := 43) (hz_dec kX11_told 21 rfl) (by decide) (by omega) (by omega) (fun hq5 => ?_) (fun hq5 => ?_)
        · skip
          exact absurd hq5 (by decide)
        · skip
          refine hz_bipush (pc := 40) (v := (-4)) (hz_dec kX11_told 22 rfl) (by decide) ?_
          exact hz_iret (pc := 42) (hz_dec kX11_told 23 rfl) rfl (hcP.no hR _)
  · skip
    exact absurd hq2 (by decide)
set_option maxHeartbeats 4000000 in
set_option maxRecDepth 100000 in
theorem c_rtoldD1 {κ : hz_C} {z B : Nat} {M : hz_M} {H : ho_H} (hnn : (hoN H).length ≤ 6) (hT4 : (hoT H).length ≤ 4000) (hR : hmR M z B H) {v : Nat} (hv : v < (hoN H).length) {N : nd_N} (hN : ndL (hoN H) v = N) (hup : N.2.1 = false) : hz_Mt κ xX12_told 4 0 0 [.ref B, .int (nI v), .int (nI 1)] z M (hmP M z B (.int (-4)) H) := by
  refine hz_ent (lo := [(0, .ref B), (1, .int (nI v)), (2, .int (nI 1))]) (by decide) (Nat.le_of_ble_eq_true rfl) rfl ?_
  obtain ⟨hk0_, hE0, ⟨m1, m2, m3⟩, hNd, a5, a6, a7, a8⟩ := id hR
  obtain ⟨⟨fs, hO, hF⟩, -, -, h8, hz⟩ := id hk0_
  obtain ⟨x1, x3, x4, x5, x6, x7, x8⟩ := id m3
  have eSt : stI (ndL (hoN H) v).2.1 = (-2) := by rw [hN, hup]; rfl
  refine hz_aloadn (pc := 0) 0 (hz_dec kX12_told 0 rfl) rfl ?_
  refine hz_iconst (pc := 1) (v := nI 0) (hz_dec kX12_told 1 rfl) (by decide) ?_
  refine hz_puti (pc := 2) (hz_dec kX12_told 2 rfl) fo_X12_302 ft_X12_0 hO h8 (by omega) (by rw [hF.1]; decide) ?_
  have hf1 : mfr B [0, 89] [] M (va_up M B (.inr (12, (List.set fs 0 (.int (nI 0)))))) := (mfr.rf ⟨fs, hO, hF⟩).upO (k := 0) hO hF rfl rfl
  have hR1 : hmR (va_up M B (.inr (12, (List.set fs 0 (.int (nI 0)))))) z B H := hR.m0 hf1 hE0.upO ((fdB_of (va_up_self _ _ _) 89).trans ((List.getElem?_set_ne (by decide)).trans ((fdB_of hO 89).symm.trans x8)))
  generalize (va_up M B (.inr (12, (List.set fs 0 (.int (nI 0)))))) = M1 at *
  obtain ⟨hk1, hE1, ⟨n1, d1, q1⟩, hNd1, a51, a61, a71, a81⟩ := id hR1
  obtain ⟨⟨fs1, hO1, hF1⟩, -, -, -, -⟩ := id hk1
  have h0 : mdN M1 B v N := by have q := hNd1 v hv; rw [hN] at q; exact q
  have hv6 : v < 6 := by omega
  refine hz_aloadn (pc := 5) 0 (hz_dec kX12_told 3 rfl) rfl ?_
  refine hz_iloadn (pc := 6) 1 (hz_dec kX12_told 4 rfl) rfl ?_
  refine hz_xV (pc := 7) (a := B) (As := [.int (nI v)]) (st := []) (hz_dec kX12_told 5 rfl) co_X12_692 im_X12_stateOf se_X12_stateOf rfl hO1 h8 (by omega) (c_st hnn hR1 hv) rfl (by decide) ⟨Nat.le_refl _, Nat.le_refl _⟩ (Nat.le_of_ble_eq_true rfl) rfl ?_
  refine hz_eqi (pc := 10) eSt ?_
  refine hz_istoren (pc := 10) (i := 3) (lo2 := [(3, .int (-2)), (0, .ref B), (1, .int (nI v)), (2, .int (nI 1))]) (hz_dec kX12_told 6 rfl) rfl (by decide) rfl ?_
  refine hz_iloadn (pc := 11) 0 (hz_dec kX12_told 7 rfl) rfl ?_
  refine hz_iconst (pc := 12) (v := (-1)) (hz_dec kX12_told 8 rfl) (by decide) ?_
  refine hz_icmp_eq (pc := 13) (tgt := 26) (hz_dec kX12_told 9 rfl) (by decide) (fun hq1 => ?_) (fun hq1 => ?_)
  · skip
    exact absurd hq1 (by decide)
  · skip
    refine hz_iloadn (pc := 16) 3 (hz_dec kX12_told 10 rfl) rfl ?_
    refine hz_z_lt (pc := 17) (tgt := 26) (hz_dec kX12_told 11 rfl) (by decide) (by omega) ?_
    refine hz_iloadn (pc := 20) 3 (hz_dec kX12_told 12 rfl) rfl ?_
    refine hz_bipush (pc := 21) (v := nI 10) (hz_dec kX12_told 13 rfl) (by decide) ?_
    refine hz_n_le (pc := 23) (tgt := 28) (hz_dec kX12_told 14 rfl) (by decide) (by omega) (by omega) (fun hq3 => ?_) (fun hq3 => ?_)
    · skip
      refine hz_iloadn (pc := 28) 0 (hz_dec kX12_told 17 rfl) rfl ?_
      refine hz_bipush (pc := 29) (v := (-2)) (hz_dec kX12_told 18 rfl) (by decide) ?_
      refine hz_icmp_ne (pc := 31) (tgt := 47) (hz_dec kX12_told 19 rfl) (by decide) (fun hq4 => ?_) (fun hq4 => ?_)
      · skip
        exact absurd hq4 (by decide)
      · skip
        refine hz_iloadn (pc := 34) 3 (hz_dec kX12_told 20 rfl) rfl ?_
        refine hz_z_le (pc := 35) (tgt := 47) (hz_dec kX12_told 21 rfl) (by decide) (by omega) (fun hq5 => ?_) (fun hq5 => ?_)
        · skip
          exact absurd hq5 (by decide)
        · skip
          refine hz_iloadn (pc := 38) 3 (hz_dec kX12_told 22 rfl) rfl ?_
          refine hz_bipush (pc := 39) (v := nI 9) (hz_dec kX12_told 23 rfl) (by decide) ?_
          refine hz_n_ge (pc := 41) (tgt := 47) (hz_dec kX12_told 24 rfl) (by decide) (by omega) (by omega) (fun hq6 => ?_) (fun hq6 => ?_)
          · skip
            exact absurd hq6 (by decide)
          · skip
            refine hz_bipush (pc := 44) (v := (-4)) (hz_dec kX12_told 25 rfl) (by decide) ?_
            exact hz_iret (pc := 46) (hz_dec kX12_told 26 rfl) rfl ⟨rfl, rfl, hf1.S rfl, hR1⟩
    · skip
      exact absurd hq3 (by decide)
set_option maxHeartbeats 4000000 in
set_option maxRecDepth 100000 in
theorem c_toldD2 {κ : hz_C} {z : Nat} {M : hz_M} {H : ho_H} (hz : 63 + 34 * (hoN H).length ≤ z) (hnn : (hoN H).length ≤ 6) (hT4 : (hoT H).length ≤ 4000) {ll : Nat} {fr kn : Int32} (hR : hcR M z H ll fr kn) {v : Nat} (hv : v < (hoN H).length) {N : nd_N} (hN : ndL (hoN H) v = N) (hup : N.2.1 = false) : hz_Mt κ xX11_told 4 0 0 [.ref 8, .int (nI v), .int (nI 2)] z M (hcP M z H (.int (-4)) H) := by
  refine hz_ent (lo := [(0, .ref 8), (1, .int (nI v)), (2, .int (nI 2))]) (by decide) (Nat.le_of_ble_eq_true rfl) rfl ?_
  have hH := hR.1
  have hNs := hR.2.1
  obtain ⟨hO, hQ, hD⟩ := id hR.2.2.2.2.1
  obtain ⟨g53, h53⟩ := hR.2.2.2.2.2.1
  have hJ := hR.2.2.2.1
  obtain ⟨g56, h56, hT56⟩ := hR.2.2.2.2.2.2.2.2.2.1
  have hdf := hR.2.2.2.2.2.2.2.2.2.2
  have hck : ck_k M z := hJ.2.2.2.2.2.2.2.1
  have hcs : ck_s M := hJ.2.2.2.2.2.2.2.2.1
  have hz63 : 63 ≤ z := by omega
  have hK := hR.2.2.1 v hv
  rw [hN] at hK
  obtain ⟨hn, ⟨gd, hgd, hgD⟩, hT, hC, hP, hL⟩ := id hK
  have hn : M (63 + 34 * v) = ndO (63 + 34 * v) (nI v) (nI 0) (nI (ksN N.1)) (pvI (ksF N.1)) N.2.2.1 N.2.2.2 := by rw [hup] at hn; exact hn
  refine hz_aloadn (pc := 0) 0 (hz_dec kX11_told 0 rfl) rfl ?_
  refine hz_iloadn (pc := 1) 1 (hz_dec kX11_told 1 rfl) rfl ?_
  refine hz_xV (pc := 2) (a := 8) (As := [.int (nI v)]) (st := []) (hz_dec kX11_told 2 rfl) co_X11_162 im_X11_nodeOf se_X11_nodeOf rfl hH (by omega) (by omega) (c_nOf hz63 hH hnn hNs (b := v) hv) rfl (by decide) ⟨Nat.le_refl _, Nat.le_refl _⟩ (Nat.le_of_ble_eq_true rfl) rfl ?_
  refine hz_astoren (pc := 5) (i := 3) (lo2 := [(3, .ref (63 + 34 * v)), (0, .ref 8), (1, .int (nI v)), (2, .int (nI 2))]) (hz_dec kX11_told 3 rfl) rfl (by decide) rfl ?_
  refine hz_aloadn (pc := 6) 0 (hz_dec kX11_told 4 rfl) rfl ?_
  refine hz_ifnull (pc := 7) (hz_dec kX11_told 5 rfl) ?_
  refine hz_iloadn (pc := 10) 3 (hz_dec kX11_told 6 rfl) rfl ?_
  refine hz_z_lt (pc := 11) (tgt := 20) (hz_dec kX11_told 7 rfl) (by decide) (by omega) ?_
  refine hz_iloadn (pc := 14) 3 (hz_dec kX11_told 8 rfl) rfl ?_
  refine hz_bipush (pc := 15) (v := nI 10) (hz_dec kX11_told 9 rfl) (by decide) ?_
  refine hz_n_le (pc := 17) (tgt := 22) (hz_dec kX11_told 10 rfl) (by decide) (by omega) (by omega) (fun hq2 => ?_) (fun hq2 => ?_)
  · skip
    refine hz_aloadn (pc := 22) 0 (hz_dec kX11_told 13 rfl) rfl ?_
    refine hz_get (pc := 23) (hz_dec kX11_told 14 rfl) fo_X11_166 hn (by omega) (by omega) rfl ?_
    refine hz_z_ne (pc := 26) (tgt := 43) (hz_dec kX11_told 15 rfl) (by decide) (by omega) (fun hq3 => ?_) (fun hq3 => ?_)
    · skip
      exact absurd hq3 (by decide)
    · skip
      refine hz_iloadn (pc := 29) 3 (hz_dec kX11_told 16 rfl) rfl ?_
      refine hz_iconst (pc := 30) (v := nI 1) (hz_dec kX11_told 17 rfl) (by decide) ?_
      refine hz_n_lt (pc := 31) (tgt := 43) (hz_dec kX11_told 18 rfl) (by decide) (by omega) (by omega) (fun hq4 => ?_) (fun hq4 => ?_)
      · skip
        exact absurd hq4 (by decide)
      · skip
        refine hz_iloadn (pc := 34) 3 (hz_dec kX11_told 19 rfl) rfl ?_
        refine hz_bipush (pc := 35) (v := nI 8) (hz_dec kX11_told 20 rfl) (by decide) ?_
        refine hz_n_gt (pc := 37) (tgt := 43) (hz_dec kX11_told 21 rfl) (by decide) (by omega) (by omega) (fun hq5 => ?_) (fun hq5 => ?_)
        · skip
          exact absurd hq5 (by decide)
        · skip
          refine hz_bipush (pc := 40) (v := (-4)) (hz_dec kX11_told 22 rfl) (by decide) ?_
          exact hz_iret (pc := 42) (hz_dec kX11_told 23 rfl) rfl (hcP.no hR _)
  · skip
    exact absurd hq2 (by decide)
set_option maxHeartbeats 4000000 in
set_option maxRecDepth 100000 in
theorem c_rtoldD2 {κ : hz_C} {z B : Nat} {M : hz_M} {H : ho_H} (hnn : (hoN H).length ≤ 6) (hT4 : (hoT H).length ≤ 4000) (hR : hmR M z B H) {v : Nat} (hv : v < (hoN H).length) {N : nd_N} (hN : ndL (hoN H) v = N) (hup : N.2.1 = false) : hz_Mt κ xX12_told 4 0 0 [.ref B, .int (nI v), .int (nI 2)] z M (hmP M z B (.int (-4)) H) := by
  refine hz_ent (lo := [(0, .ref B), (1, .int (nI v)), (2, .int (nI 2))]) (by decide) (Nat.le_of_ble_eq_true rfl) rfl ?_
  obtain ⟨hk0_, hE0, ⟨m1, m2, m3⟩, hNd, a5, a6, a7, a8⟩ := id hR
  obtain ⟨⟨fs, hO, hF⟩, -, -, h8, hz⟩ := id hk0_
  obtain ⟨x1, x3, x4, x5, x6, x7, x8⟩ := id m3
  have eSt : stI (ndL (hoN H) v).2.1 = (-2) := by rw [hN, hup]; rfl
  refine hz_aloadn (pc := 0) 0 (hz_dec kX12_told 0 rfl) rfl ?_
  refine hz_iconst (pc := 1) (v := nI 0) (hz_dec kX12_told 1 rfl) (by decide) ?_
  refine hz_puti (pc := 2) (hz_dec kX12_told 2 rfl) fo_X12_302 ft_X12_0 hO h8 (by omega) (by rw [hF.1]; decide) ?_
  have hf1 : mfr B [0, 89] [] M (va_up M B (.inr (12, (List.set fs 0 (.int (nI 0)))))) := (mfr.rf ⟨fs, hO, hF⟩).upO (k := 0) hO hF rfl rfl
  have hR1 : hmR (va_up M B (.inr (12, (List.set fs 0 (.int (nI 0)))))) z B H := hR.m0 hf1 hE0.upO ((fdB_of (va_up_self _ _ _) 89).trans ((List.getElem?_set_ne (by decide)).trans ((fdB_of hO 89).symm.trans x8)))
  generalize (va_up M B (.inr (12, (List.set fs 0 (.int (nI 0)))))) = M1 at *
  obtain ⟨hk1, hE1, ⟨n1, d1, q1⟩, hNd1, a51, a61, a71, a81⟩ := id hR1
  obtain ⟨⟨fs1, hO1, hF1⟩, -, -, -, -⟩ := id hk1
  have h0 : mdN M1 B v N := by have q := hNd1 v hv; rw [hN] at q; exact q
  have hv6 : v < 6 := by omega
  refine hz_aloadn (pc := 5) 0 (hz_dec kX12_told 3 rfl) rfl ?_
  refine hz_iloadn (pc := 6) 1 (hz_dec kX12_told 4 rfl) rfl ?_
  refine hz_xV (pc := 7) (a := B) (As := [.int (nI v)]) (st := []) (hz_dec kX12_told 5 rfl) co_X12_692 im_X12_stateOf se_X12_stateOf rfl hO1 h8 (by omega) (c_st hnn hR1 hv) rfl (by decide) ⟨Nat.le_refl _, Nat.le_refl _⟩ (Nat.le_of_ble_eq_true rfl) rfl ?_
  refine hz_eqi (pc := 10) eSt ?_
  refine hz_istoren (pc := 10) (i := 3) (lo2 := [(3, .int (-2)), (0, .ref B), (1, .int (nI v)), (2, .int (nI 2))]) (hz_dec kX12_told 6 rfl) rfl (by decide) rfl ?_
  refine hz_iloadn (pc := 11) 0 (hz_dec kX12_told 7 rfl) rfl ?_
  refine hz_iconst (pc := 12) (v := (-1)) (hz_dec kX12_told 8 rfl) (by decide) ?_
  refine hz_icmp_eq (pc := 13) (tgt := 26) (hz_dec kX12_told 9 rfl) (by decide) (fun hq1 => ?_) (fun hq1 => ?_)
  · skip
    exact absurd hq1 (by decide)
  · skip
    refine hz_iloadn (pc := 16) 3 (hz_dec kX12_told 10 rfl) rfl ?_
    refine hz_z_lt (pc := 17) (tgt := 26) (hz_dec kX12_told 11 rfl) (by decide) (by omega) ?_
    refine hz_iloadn (pc := 20) 3 (hz_dec kX12_told 12 rfl) rfl ?_
    refine hz_bipush (pc := 21) (v := nI 10) (hz_dec kX12_told 13 rfl) (by decide) ?_
    refine hz_n_le (pc := 23) (tgt := 28) (hz_dec kX12_told 14 rfl) (by decide) (by omega) (by omega) (fun hq3 => ?_) (fun hq3 => ?_)
    · skip
      refine hz_iloadn (pc := 28) 0 (hz_dec kX12_told 17 rfl) rfl ?_
      refine hz_bipush (pc := 29) (v := (-2)) (hz_dec kX12_told 18 rfl) (by decide) ?_
      refine hz_icmp_ne (pc := 31) (tgt := 47) (hz_dec kX12_told 19 rfl) (by decide) (fun hq4 => ?_) (fun hq4 => ?_)
      · skip
        exact absurd hq4 (by decide)
      · skip
        refine hz_iloadn (pc := 34) 3 (hz_dec kX12_told 20 rfl) rfl ?_
        refine hz_z_le (pc := 35) (tgt := 47) (hz_dec kX12_told 21 rfl) (by decide) (by omega) (fun hq5 => ?_) (fun hq5 => ?_)
        · skip
          exact absurd hq5 (by decide)
        · skip
          refine hz_iloadn (pc := 38) 3 (hz_dec kX12_told 22 rfl) rfl ?_
          refine hz_bipush (pc := 39) (v := nI 9) (hz_dec kX12_told 23 rfl) (by decide) ?_
          refine hz_n_ge (pc := 41) (tgt := 47) (hz_dec kX12_told 24 rfl) (by decide) (by omega) (by omega) (fun hq6 => ?_) (fun hq6 => ?_)
          · skip
            exact absurd hq6 (by decide)
          · skip
            refine hz_bipush (pc := 44) (v := (-4)) (hz_dec kX12_told 25 rfl) (by decide) ?_
            exact hz_iret (pc := 46) (hz_dec kX12_told 26 rfl) rfl ⟨rfl, rfl, hf1.S rfl, hR1⟩
    · skip
      exact absurd hq3 (by decide)
set_option maxHeartbeats 4000000 in
set_option maxRecDepth 100000 in
theorem c_toldD3 {κ : hz_C} {z : Nat} {M : hz_M} {H : ho_H} (hz : 63 + 34 * (hoN H).length ≤ z) (hnn : (hoN H).length ≤ 6) (hT4 : (hoT H).length ≤ 4000) {ll : Nat} {fr kn : Int32} (hR : hcR M z H ll fr kn) {v : Nat} (hv : v < (hoN H).length) {N : nd_N} (hN : ndL (hoN H) v = N) (hup : N.2.1 = false) : hz_Mt κ xX11_told 4 0 0 [.ref 8, .int (nI v), .int (nI 3)] z M (hcP M z H (.int (-4)) H) := by
  refine hz_ent (lo := [(0, .ref 8), (1, .int (nI v)), (2, .int (nI 3))]) (by decide) (Nat.le_of_ble_eq_true rfl) rfl ?_
  have hH := hR.1
  have hNs := hR.2.1
  obtain ⟨hO, hQ, hD⟩ := id hR.2.2.2.2.1
  obtain ⟨g53, h53⟩ := hR.2.2.2.2.2.1
  have hJ := hR.2.2.2.1
  obtain ⟨g56, h56, hT56⟩ := hR.2.2.2.2.2.2.2.2.2.1
  have hdf := hR.2.2.2.2.2.2.2.2.2.2
  have hck : ck_k M z := hJ.2.2.2.2.2.2.2.1
  have hcs : ck_s M := hJ.2.2.2.2.2.2.2.2.1
  have hz63 : 63 ≤ z := by omega
  have hK := hR.2.2.1 v hv
  rw [hN] at hK
  obtain ⟨hn, ⟨gd, hgd, hgD⟩, hT, hC, hP, hL⟩ := id hK
  have hn : M (63 + 34 * v) = ndO (63 + 34 * v) (nI v) (nI 0) (nI (ksN N.1)) (pvI (ksF N.1)) N.2.2.1 N.2.2.2 := by rw [hup] at hn; exact hn
  refine hz_aloadn (pc := 0) 0 (hz_dec kX11_told 0 rfl) rfl ?_
  refine hz_iloadn (pc := 1) 1 (hz_dec kX11_told 1 rfl) rfl ?_
  refine hz_xV (pc := 2) (a := 8) (As := [.int (nI v)]) (st := []) (hz_dec kX11_told 2 rfl) co_X11_162 im_X11_nodeOf se_X11_nodeOf rfl hH (by omega) (by omega) (c_nOf hz63 hH hnn hNs (b := v) hv) rfl (by decide) ⟨Nat.le_refl _, Nat.le_refl _⟩ (Nat.le_of_ble_eq_true rfl) rfl ?_
  refine hz_astoren (pc := 5) (i := 3) (lo2 := [(3, .ref (63 + 34 * v)), (0, .ref 8), (1, .int (nI v)), (2, .int (nI 3))]) (hz_dec kX11_told 3 rfl) rfl (by decide) rfl ?_
  refine hz_aloadn (pc := 6) 0 (hz_dec kX11_told 4 rfl) rfl ?_
  refine hz_ifnull (pc := 7) (hz_dec kX11_told 5 rfl) ?_
  refine hz_iloadn (pc := 10) 3 (hz_dec kX11_told 6 rfl) rfl ?_
  refine hz_z_lt (pc := 11) (tgt := 20) (hz_dec kX11_told 7 rfl) (by decide) (by omega) ?_
  refine hz_iloadn (pc := 14) 3 (hz_dec kX11_told 8 rfl) rfl ?_
  refine hz_bipush (pc := 15) (v := nI 10) (hz_dec kX11_told 9 rfl) (by decide) ?_
  refine hz_n_le (pc := 17) (tgt := 22) (hz_dec kX11_told 10 rfl) (by decide) (by omega) (by omega) (fun hq2 => ?_) (fun hq2 => ?_)
  · skip
    refine hz_aloadn (pc := 22) 0 (hz_dec kX11_told 13 rfl) rfl ?_
    refine hz_get (pc := 23) (hz_dec kX11_told 14 rfl) fo_X11_166 hn (by omega) (by omega) rfl ?_
    refine hz_z_ne (pc := 26) (tgt := 43) (hz_dec kX11_told 15 rfl) (by decide) (by omega) (fun hq3 => ?_) (fun hq3 => ?_)
    · skip
      exact absurd hq3 (by decide)
    · skip
      refine hz_iloadn (pc := 29) 3 (hz_dec kX11_told 16 rfl) rfl ?_
      refine hz_iconst (pc := 30) (v := nI 1) (hz_dec kX11_told 17 rfl) (by decide) ?_
      refine hz_n_lt (pc := 31) (tgt := 43) (hz_dec kX11_told 18 rfl) (by decide) (by omega) (by omega) (fun hq4 => ?_) (fun hq4 => ?_)
      · skip
        exact absurd hq4 (by decide)
      · skip
        refine hz_iloadn (pc := 34) 3 (hz_dec kX11_told 19 rfl) rfl ?_
        refine hz_bipush (pc := 35) (v := nI 8) (hz_dec kX11_told 20 rfl) (by decide) ?_
        refine hz_n_gt (pc := 37) (tgt := 43) (hz_dec kX11_told 21 rfl) (by decide) (by omega) (by omega) (fun hq5 => ?_) (fun hq5 => ?_)
        · skip
          exact absurd hq5 (by decide)
        · skip
          refine hz_bipush (pc := 40) (v := (-4)) (hz_dec kX11_told 22 rfl) (by decide) ?_
          exact hz_iret (pc := 42) (hz_dec kX11_told 23 rfl) rfl (hcP.no hR _)
  · skip
    exact absurd hq2 (by decide)
set_option maxHeartbeats 4000000 in
set_option maxRecDepth 100000 in
theorem c_rtoldD3 {κ : hz_C} {z B : Nat} {M : hz_M} {H : ho_H} (hnn : (hoN H).length ≤ 6) (hT4 : (hoT H).length ≤ 4000) (hR : hmR M z B H) {v : Nat} (hv : v < (hoN H).length) {N : nd_N} (hN : ndL (hoN H) v = N) (hup : N.2.1 = false) : hz_Mt κ xX12_told 4 0 0 [.ref B, .int (nI v), .int (nI 3)] z M (hmP M z B (.int (-4)) H) := by
  refine hz_ent (lo := [(0, .ref B), (1, .int (nI v)), (2, .int (nI 3))]) (by decide) (Nat.le_of_ble_eq_true rfl) rfl ?_
  obtain ⟨hk0_, hE0, ⟨m1, m2, m3⟩, hNd, a5, a6, a7, a8⟩ := id hR
  obtain ⟨⟨fs, hO, hF⟩, -, -, h8, hz⟩ := id hk0_
  obtain ⟨x1, x3, x4, x5, x6, x7, x8⟩ := id m3
  have eSt : stI (ndL (hoN H) v).2.1 = (-2) := by rw [hN, hup]; rfl
  refine hz_aloadn (pc := 0) 0 (hz_dec kX12_told 0 rfl) rfl ?_
  refine hz_iconst (pc := 1) (v := nI 0) (hz_dec kX12_told 1 rfl) (by decide) ?_
  refine hz_puti (pc := 2) (hz_dec kX12_told 2 rfl) fo_X12_302 ft_X12_0 hO h8 (by omega) (by rw [hF.1]; decide) ?_
  have hf1 : mfr B [0, 89] [] M (va_up M B (.inr (12, (List.set fs 0 (.int (nI 0)))))) := (mfr.rf ⟨fs, hO, hF⟩).upO (k := 0) hO hF rfl rfl
  have hR1 : hmR (va_up M B (.inr (12, (List.set fs 0 (.int (nI 0)))))) z B H := hR.m0 hf1 hE0.upO ((fdB_of (va_up_self _ _ _) 89).trans ((List.getElem?_set_ne (by decide)).trans ((fdB_of hO 89).symm.trans x8)))
  generalize (va_up M B (.inr (12, (List.set fs 0 (.int (nI 0)))))) = M1 at *
  obtain ⟨hk1, hE1, ⟨n1, d1, q1⟩, hNd1, a51, a61, a71, a81⟩ := id hR1
  obtain ⟨⟨fs1, hO1, hF1⟩, -, -, -, -⟩ := id hk1
  have h0 : mdN M1 B v N := by have q := hNd1 v hv; rw [hN] at q; exact q
  have hv6 : v < 6 := by omega
  refine hz_aloadn (pc := 5) 0 (hz_dec kX12_told 3 rfl) rfl ?_
  refine hz_iloadn (pc := 6) 1 (hz_dec kX12_told 4 rfl) rfl ?_
  refine hz_xV (pc := 7) (a := B) (As := [.int (nI v)]) (st := []) (hz_dec kX12_told 5 rfl) co_X12_692 im_X12_stateOf se_X12_stateOf rfl hO1 h8 (by omega) (c_st hnn hR1 hv) rfl (by decide) ⟨Nat.le_refl _, Nat.le_refl _⟩ (Nat.le_of_ble_eq_true rfl) rfl ?_
  refine hz_eqi (pc := 10) eSt ?_
  refine hz_istoren (pc := 10) (i := 3) (lo2 := [(3, .int (-2)), (0, .ref B), (1, .int (nI v)), (2, .int (nI 3))]) (hz_dec kX12_told 6 rfl) rfl (by decide) rfl ?_
  refine hz_iloadn (pc := 11) 0 (hz_dec kX12_told 7 rfl) rfl ?_
  refine hz_iconst (pc := 12) (v := (-1)) (hz_dec kX12_told 8 rfl) (by decide) ?_
  refine hz_icmp_eq (pc := 13) (tgt := 26) (hz_dec kX12_told 9 rfl) (by decide) (fun hq1 => ?_) (fun hq1 => ?_)
  · skip
    exact absurd hq1 (by decide)
  · skip
    refine hz_iloadn (pc := 16) 3 (hz_dec kX12_told 10 rfl) rfl ?_
    refine hz_z_lt (pc := 17) (tgt := 26) (hz_dec kX12_told 11 rfl) (by decide) (by omega) ?_
    refine hz_iloadn (pc := 20) 3 (hz_dec kX12_told 12 rfl) rfl ?_
    refine hz_bipush (pc := 21) (v := nI 10) (hz_dec kX12_told 13 rfl) (by decide) ?_
    refine hz_n_le (pc := 23) (tgt := 28) (hz_dec kX12_told 14 rfl) (by decide) (by omega) (by omega) (fun hq3 => ?_) (fun hq3 => ?_)
    · skip
      refine hz_iloadn (pc := 28) 0 (hz_dec kX12_told 17 rfl) rfl ?_
      refine hz_bipush (pc := 29) (v := (-2)) (hz_dec kX12_told 18 rfl) (by decide) ?_
      refine hz_icmp_ne (pc := 31) (tgt := 47) (hz_dec kX12_told 19 rfl) (by decide) (fun hq4 => ?_) (fun hq4 => ?_)
      · skip
        exact absurd hq4 (by decide)
      · skip
        refine hz_iloadn (pc := 34) 3 (hz_dec kX12_told 20 rfl) rfl ?_
        refine hz_z_le (pc := 35) (tgt := 47) (hz_dec kX12_told 21 rfl) (by decide) (by omega) (fun hq5 => ?_) (fun hq5 => ?_)
        · skip
          exact absurd hq5 (by decide)
        · skip
          refine hz_iloadn (pc := 38) 3 (hz_dec kX12_told 22 rfl) rfl ?_
          refine hz_bipush (pc := 39) (v := nI 9) (hz_dec kX12_told 23 rfl) (by decide) ?_
          refine hz_n_ge (pc := 41) (tgt := 47) (hz_dec kX12_told 24 rfl) (by decide) (by omega) (by omega) (fun hq6 => ?_) (fun hq6 => ?_)
          · skip
            exact absurd hq6 (by decide)
          · skip
            refine hz_bipush (pc := 44) (v := (-4)) (hz_dec kX12_told 25 rfl) (by decide) ?_
            exact hz_iret (pc := 46) (hz_dec kX12_told 26 rfl) rfl ⟨rfl, rfl, hf1.S rfl, hR1⟩
    · skip
      exact absurd hq3 (by decide)
set_option maxHeartbeats 4000000 in
set_option maxRecDepth 100000 in
theorem c_toldD4 {κ : hz_C} {z : Nat} {M : hz_M} {H : ho_H} (hz : 63 + 34 * (hoN H).length ≤ z) (hnn : (hoN H).length ≤ 6) (hT4 : (hoT H).length ≤ 4000) {ll : Nat} {fr kn : Int32} (hR : hcR M z H ll fr kn) {v : Nat} (hv : v < (hoN H).length) {N : nd_N} (hN : ndL (hoN H) v = N) (hup : N.2.1 = false) : hz_Mt κ xX11_told 4 0 0 [.ref 8, .int (nI v), .int (nI 4)] z M (hcP M z H (.int (-4)) H) := by
  refine hz_ent (lo := [(0, .ref 8), (1, .int (nI v)), (2, .int (nI 4))]) (by decide) (Nat.le_of_ble_eq_true rfl) rfl ?_
  have hH := hR.1
  have hNs := hR.2.1
  obtain ⟨hO, hQ, hD⟩ := id hR.2.2.2.2.1
  obtain ⟨g53, h53⟩ := hR.2.2.2.2.2.1
  have hJ := hR.2.2.2.1
  obtain ⟨g56, h56, hT56⟩ := hR.2.2.2.2.2.2.2.2.2.1
  have hdf := hR.2.2.2.2.2.2.2.2.2.2
  have hck : ck_k M z := hJ.2.2.2.2.2.2.2.1
  have hcs : ck_s M := hJ.2.2.2.2.2.2.2.2.1
  have hz63 : 63 ≤ z := by omega
  have hK := hR.2.2.1 v hv
  rw [hN] at hK
  obtain ⟨hn, ⟨gd, hgd, hgD⟩, hT, hC, hP, hL⟩ := id hK
  have hn : M (63 + 34 * v) = ndO (63 + 34 * v) (nI v) (nI 0) (nI (ksN N.1)) (pvI (ksF N.1)) N.2.2.1 N.2.2.2 := by rw [hup] at hn; exact hn
  refine hz_aloadn (pc := 0) 0 (hz_dec kX11_told 0 rfl) rfl ?_
  refine hz_iloadn (pc := 1) 1 (hz_dec kX11_told 1 rfl) rfl ?_
  refine hz_xV (pc := 2) (a := 8) (As := [.int (nI v)]) (st := []) (hz_dec kX11_told 2 rfl) co_X11_162 im_X11_nodeOf se_X11_nodeOf rfl hH (by omega) (by omega) (c_nOf hz63 hH hnn hNs (b := v) hv) rfl (by decide) ⟨Nat.le_refl _, Nat.le_refl _⟩ (Nat.le_of_ble_eq_true rfl) rfl ?_
  refine hz_astoren (pc := 5) (i := 3) (lo2 := [(3, .ref (63 + 34 * v)), (0, .ref 8), (1, .int (nI v)), (2, .int (nI 4))]) (hz_dec kX11_told 3 rfl) rfl (by decide) rfl ?_
  refine hz_aloadn (pc := 6) 0 (hz_dec kX11_told 4 rfl) rfl ?_
  refine hz_ifnull (pc := 7) (hz_dec kX11_told 5 rfl) ?_
  refine hz_iloadn (pc := 10) 3 (hz_dec kX11_told 6 rfl) rfl ?_
  refine hz_z_lt (pc := 11) (tgt := 20) (hz_dec kX11_told 7 rfl) (by decide) (by omega) ?_
  refine hz_iloadn (pc := 14) 3 (hz_dec kX11_told 8 rfl) rfl ?_
  refine hz_bipush (pc := 15) (v := nI 10) (hz_dec kX11_told 9 rfl) (by decide) ?_
  refine hz_n_le (pc := 17) (tgt := 22) (hz_dec kX11_told 10 rfl) (by decide) (by omega) (by omega) (fun hq2 => ?_) (fun hq2 => ?_)
  · skip
    refine hz_aloadn (pc := 22) 0 (hz_dec kX11_told 13 rfl) rfl ?_
    refine hz_get (pc := 23) (hz_dec kX11_told 14 rfl) fo_X11_166 hn (by omega) (by omega) rfl ?_
    refine hz_z_ne (pc := 26) (tgt := 43) (hz_dec kX11_told 15 rfl) (by decide) (by omega) (fun hq3 => ?_) (fun hq3 => ?_)
    · skip
      exact absurd hq3 (by decide)
    · skip
      refine hz_iloadn (pc := 29) 3 (hz_dec kX11_told 16 rfl) rfl ?_
      refine hz_iconst (pc := 30) (v := nI 1) (hz_dec kX11_told 17 rfl) (by decide) ?_
      refine hz_n_lt (pc := 31) (tgt := 43) (hz_dec kX11_told 18 rfl) (by decide) (by omega) (by omega) (fun hq4 => ?_) (fun hq4 => ?_)
      · skip
        exact absurd hq4 (by decide)
      · skip
        refine hz_iloadn (pc := 34) 3 (hz_dec kX11_told 19 rfl) rfl ?_
        refine hz_bipush (pc := 35) (v := nI 8) (hz_dec kX11_told 20 rfl) (by decide) ?_
        refine hz_n_gt (pc := 37) (tgt := 43) (hz_dec kX11_told 21 rfl) (by decide) (by omega) (by omega) (fun hq5 => ?_) (fun hq5 => ?_)
        · skip
          exact absurd hq5 (by decide)
        · skip
          refine hz_bipush (pc := 40) (v := (-4)) (hz_dec kX11_told 22 rfl) (by decide) ?_
          exact hz_iret (pc := 42) (hz_dec kX11_told 23 rfl) rfl (hcP.no hR _)
  · skip
    exact absurd hq2 (by decide)
set_option maxHeartbeats 4000000 in
set_option maxRecDepth 100000 in
theorem c_rtoldD4 {κ : hz_C} {z B : Nat} {M : hz_M} {H : ho_H} (hnn : (hoN H).length ≤ 6) (hT4 : (hoT H).length ≤ 4000) (hR : hmR M z B H) {v : Nat} (hv : v < (hoN H).length) {N : nd_N} (hN : ndL (hoN H) v = N) (hup : N.2.1 = false) : hz_Mt κ xX12_told 4 0 0 [.ref B, .int (nI v), .int (nI 4)] z M (hmP M z B (.int (-4)) H) := by
  refine hz_ent (lo := [(0, .ref B), (1, .int (nI v)), (2, .int (nI 4))]) (by decide) (Nat.le_of_ble_eq_true rfl) rfl ?_
  obtain ⟨hk0_, hE0, ⟨m1, m2, m3⟩, hNd, a5, a6, a7, a8⟩ := id hR
  obtain ⟨⟨fs, hO, hF⟩, -, -, h8, hz⟩ := id hk0_
  obtain ⟨x1, x3, x4, x5, x6, x7, x8⟩ := id m3
  have eSt : stI (ndL (hoN H) v).2.1 = (-2) := by rw [hN, hup]; rfl
  refine hz_aloadn (pc := 0) 0 (hz_dec kX12_told 0 rfl) rfl ?_
  refine hz_iconst (pc := 1) (v := nI 0) (hz_dec kX12_told 1 rfl) (by decide) ?_
  refine hz_puti (pc := 2) (hz_dec kX12_told 2 rfl) fo_X12_302 ft_X12_0 hO h8 (by omega) (by rw [hF.1]; decide) ?_
  have hf1 : mfr B [0, 89] [] M (va_up M B (.inr (12, (List.set fs 0 (.int (nI 0)))))) := (mfr.rf ⟨fs, hO, hF⟩).upO (k := 0) hO hF rfl rfl
  have hR1 : hmR (va_up M B (.inr (12, (List.set fs 0 (.int (nI 0)))))) z B H := hR.m0 hf1 hE0.upO ((fdB_of (va_up_self _ _ _) 89).trans ((List.getElem?_set_ne (by decide)).trans ((fdB_of hO 89).symm.trans x8)))
  generalize (va_up M B (.inr (12, (List.set fs 0 (.int (nI 0)))))) = M1 at *
  obtain ⟨hk1, hE1, ⟨n1, d1, q1⟩, hNd1, a51, a61, a71, a81⟩ := id hR1
  obtain ⟨⟨fs1, hO1, hF1⟩, -, -, -, -⟩ := id hk1
  have h0 : mdN M1 B v N := by have q := hNd1 v hv; rw [hN] at q; exact q
  have hv6 : v < 6 := by omega
  refine hz_aloadn (pc := 5) 0 (hz_dec kX12_told 3 rfl) rfl ?_
  refine hz_iloadn (pc := 6) 1 (hz_dec kX12_told 4 rfl) rfl ?_
  refine hz_xV (pc := 7) (a := B) (As := [.int (nI v)]) (st := []) (hz_dec kX12_told 5 rfl) co_X12_692 im_X12_stateOf se_X12_stateOf rfl hO1 h8 (by omega) (c_st hnn hR1 hv) rfl (by decide) ⟨Nat.le_refl _, Nat.le_refl _⟩ (Nat.le_of_ble_eq_true rfl) rfl ?_
  refine hz_eqi (pc := 10) eSt ?_
  refine hz_istoren (pc := 10) (i := 3) (lo2 := [(3, .int (-2)), (0, .ref B), (1, .int (nI v)), (2, .int (nI 4))]) (hz_dec kX12_told 6 rfl) rfl (by decide) rfl ?_
  refine hz_iloadn (pc := 11) 0 (hz_dec kX12_told 7 rfl) rfl ?_
  refine hz_iconst (pc := 12) (v := (-1)) (hz_dec kX12_told 8 rfl) (by decide) ?_
  refine hz_icmp_eq (pc := 13) (tgt := 26) (hz_dec kX12_told 9 rfl) (by decide) (fun hq1 => ?_) (fun hq1 => ?_)
  · skip
    exact absurd hq1 (by decide)
  · skip
    refine hz_iloadn (pc := 16) 3 (hz_dec kX12_told 10 rfl) rfl ?_
    refine hz_z_lt (pc := 17) (tgt := 26) (hz_dec kX12_told 11 rfl) (by decide) (by omega) ?_
    refine hz_iloadn (pc := 20) 3 (hz_dec kX12_told 12 rfl) rfl ?_
    refine hz_bipush (pc := 21) (v := nI 10) (hz_dec kX12_told 13 rfl) (by decide) ?_
    refine hz_n_le (pc := 23) (tgt := 28) (hz_dec kX12_told 14 rfl) (by decide) (by omega) (by omega) (fun hq3 => ?_) (fun hq3 => ?_)
    · skip
      refine hz_iloadn (pc := 28) 0 (hz_dec kX12_told 17 rfl) rfl ?_
      refine hz_bipush (pc := 29) (v := (-2)) (hz_dec kX12_told 18 rfl) (by decide) ?_
      refine hz_icmp_ne (pc := 31) (tgt := 47) (hz_dec kX12_told 19 rfl) (by decide) (fun hq4 => ?_) (fun hq4 => ?_)
      · skip
        exact absurd hq4 (by decide)
      · skip
        refine hz_iloadn (pc := 34) 3 (hz_dec kX12_told 20 rfl) rfl ?_
        refine hz_z_le (pc := 35) (tgt := 47) (hz_dec kX12_told 21 rfl) (by decide) (by omega) (fun hq5 => ?_) (fun hq5 => ?_)
        · skip
          exact absurd hq5 (by decide)
        · skip
          refine hz_iloadn (pc := 38) 3 (hz_dec kX12_told 22 rfl) rfl ?_
          refine hz_bipush (pc := 39) (v := nI 9) (hz_dec kX12_told 23 rfl) (by decide) ?_
          refine hz_n_ge (pc := 41) (tgt := 47) (hz_dec kX12_told 24 rfl) (by decide) (by omega) (by omega) (fun hq6 => ?_) (fun hq6 => ?_)
          · skip
            exact absurd hq6 (by decide)
          · skip
            refine hz_bipush (pc := 44) (v := (-4)) (hz_dec kX12_told 25 rfl) (by decide) ?_
            exact hz_iret (pc := 46) (hz_dec kX12_told 26 rfl) rfl ⟨rfl, rfl, hf1.S rfl, hR1⟩
    · skip
      exact absurd hq3 (by decide)
set_option maxHeartbeats 4000000 in
set_option maxRecDepth 100000 in
theorem c_toldD5 {κ : hz_C} {z : Nat} {M : hz_M} {H : ho_H} (hz : 63 + 34 * (hoN H).length ≤ z) (hnn : (hoN H).length ≤ 6) (hT4 : (hoT H).length ≤ 4000) {ll : Nat} {fr kn : Int32} (hR : hcR M z H ll fr kn) {v : Nat} (hv : v < (hoN H).length) {N : nd_N} (hN : ndL (hoN H) v = N) (hup : N.2.1 = false) : hz_Mt κ xX11_told 4 0 0 [.ref 8, .int (nI v), .int (nI 5)] z M (hcP M z H (.int (-4)) H) := by
  refine hz_ent (lo := [(0, .ref 8), (1, .int (nI v)), (2, .int (nI 5))]) (by decide) (Nat.le_of_ble_eq_true rfl) rfl ?_
  have hH := hR.1
  have hNs := hR.2.1
  obtain ⟨hO, hQ, hD⟩ := id hR.2.2.2.2.1
  obtain ⟨g53, h53⟩ := hR.2.2.2.2.2.1
  have hJ := hR.2.2.2.1
  obtain ⟨g56, h56, hT56⟩ := hR.2.2.2.2.2.2.2.2.2.1
  have hdf := hR.2.2.2.2.2.2.2.2.2.2
  have hck : ck_k M z := hJ.2.2.2.2.2.2.2.1
  have hcs : ck_s M := hJ.2.2.2.2.2.2.2.2.1
  have hz63 : 63 ≤ z := by omega
  have hK := hR.2.2.1 v hv
  rw [hN] at hK
  obtain ⟨hn, ⟨gd, hgd, hgD⟩, hT, hC, hP, hL⟩ := id hK
  have hn : M (63 + 34 * v) = ndO (63 + 34 * v) (nI v) (nI 0) (nI (ksN N.1)) (pvI (ksF N.1)) N.2.2.1 N.2.2.2 := by rw [hup] at hn; exact hn
  refine hz_aloadn (pc := 0) 0 (hz_dec kX11_told 0 rfl) rfl ?_
  refine hz_iloadn (pc := 1) 1 (hz_dec kX11_told 1 rfl) rfl ?_
  refine hz_xV (pc := 2) (a := 8) (As := [.int (nI v)]) (st := []) (hz_dec kX11_told 2 rfl) co_X11_162 im_X11_nodeOf se_X11_nodeOf rfl hH (by omega) (by omega) (c_nOf hz63 hH hnn hNs (b := v) hv) rfl (by decide) ⟨Nat.le_refl _, Nat.le_refl _⟩ (Nat.le_of_ble_eq_true rfl) rfl ?_
  refine hz_astoren (pc := 5) (i := 3) (lo2 := [(3, .ref (63 + 34 * v)), (0, .ref 8), (1, .int (nI v)), (2, .int (nI 5))]) (hz_dec kX11_told 3 rfl) rfl (by decide) rfl ?_
  refine hz_aloadn (pc := 6) 0 (hz_dec kX11_told 4 rfl) rfl ?_
  refine hz_ifnull (pc := 7) (hz_dec kX11_told 5 rfl) ?_
  refine hz_iloadn (pc := 10) 3 (hz_dec kX11_told 6 rfl) rfl ?_
  refine hz_z_lt (pc := 11) (tgt := 20) (hz_dec kX11_told 7 rfl) (by decide) (by omega) ?_
  refine hz_iloadn (pc := 14) 3 (hz_dec kX11_told 8 rfl) rfl ?_
  refine hz_bipush (pc := 15) (v := nI 10) (hz_dec kX11_told 9 rfl) (by decide) ?_
  refine hz_n_le (pc := 17) (tgt := 22) (hz_dec kX11_told 10 rfl) (by decide) (by omega) (by omega) (fun hq2 => ?_) (fun hq2 => ?_)
  · skip
    refine hz_aloadn (pc := 22) 0 (hz_dec kX11_told 13 rfl) rfl ?_
    refine hz_get (pc := 23) (hz_dec kX11_told 14 rfl) fo_X11_166 hn (by omega) (by omega) rfl ?_
    refine hz_z_ne (pc := 26) (tgt := 43) (hz_dec kX11_told 15 rfl) (by decide) (by omega) (fun hq3 => ?_) (fun hq3 => ?_)
    · skip
      exact absurd hq3 (by decide)
    · skip
      refine hz_iloadn (pc := 29) 3 (hz_dec kX11_told 16 rfl) rfl ?_
      refine hz_iconst (pc := 30) (v := nI 1) (hz_dec kX11_told 17 rfl) (by decide) ?_
      refine hz_n_lt (pc := 31) (tgt := 43) (hz_dec kX11_told 18 rfl) (by decide) (by omega) (by omega) (fun hq4 => ?_) (fun hq4 => ?_)
      · skip
        exact absurd hq4 (by decide)
      · skip
        refine hz_iloadn (pc := 34) 3 (hz_dec kX11_told 19 rfl) rfl ?_
        refine hz_bipush (pc := 35) (v := nI 8) (hz_dec kX11_told 20 rfl) (by decide) ?_
        refine hz_n_gt (pc := 37) (tgt := 43) (hz_dec kX11_told 21 rfl) (by decide) (by omega) (by omega) (fun hq5 => ?_) (fun hq5 => ?_)
        · skip
          exact absurd hq5 (by decide)
        · skip
          refine hz_bipush (pc := 40) (v := (-4)) (hz_dec kX11_told 22 rfl) (by decide) ?_
          exact hz_iret (pc := 42) (hz_dec kX11_told 23 rfl) rfl (hcP.no hR _)
  · skip
    exact absurd hq2 (by decide)
set_option maxHeartbeats 4000000 in
set_option maxRecDepth 100000 in
theorem c_rtoldD5 {κ : hz_C} {z B : Nat} {M : hz_M} {H : ho_H} (hnn : (hoN H).length ≤ 6) (hT4 : (hoT H).length ≤ 4000) (hR : hmR M z B H) {v : Nat} (hv : v < (hoN H).length) {N : nd_N} (hN : ndL (hoN H) v = N) (hup : N.2.1 = false) : hz_Mt κ xX12_told 4 0 0 [.ref B, .int (nI v), .int (nI 5)] z M (hmP M z B (.int (-4)) H) := by
  refine hz_ent (lo := [(0, .ref B), (1, .int (nI v)), (2, .int (nI 5))]) (by decide) (Nat.le_of_ble_eq_true rfl) rfl ?_
  obtain ⟨hk0_, hE0, ⟨m1, m2, m3⟩, hNd, a5, a6, a7, a8⟩ := id hR
  obtain ⟨⟨fs, hO, hF⟩, -, -, h8, hz⟩ := id hk0_
  obtain ⟨x1, x3, x4, x5, x6, x7, x8⟩ := id m3
  have eSt : stI (ndL (hoN H) v).2.1 = (-2) := by rw [hN, hup]; rfl
  refine hz_aloadn (pc := 0) 0 (hz_dec kX12_told 0 rfl) rfl ?_
  refine hz_iconst (pc := 1) (v := nI 0) (hz_dec kX12_told 1 rfl) (by decide) ?_
  refine hz_puti (pc := 2) (hz_dec kX12_told 2 rfl) fo_X12_302 ft_X12_0 hO h8 (by omega) (by rw [hF.1]; decide) ?_
  have hf1 : mfr B [0, 89] [] M (va_up M B (.inr (12, (List.set fs 0 (.int (nI 0)))))) := (mfr.rf ⟨fs, hO, hF⟩).upO (k := 0) hO hF rfl rfl
  have hR1 : hmR (va_up M B (.inr (12, (List.set fs 0 (.int (nI 0)))))) z B H := hR.m0 hf1 hE0.upO ((fdB_of (va_up_self _ _ _) 89).trans ((List.getElem?_set_ne (by decide)).trans ((fdB_of hO 89).symm.trans x8)))
  generalize (va_up M B (.inr (12, (List.set fs 0 (.int (nI 0)))))) = M1 at *
  obtain ⟨hk1, hE1, ⟨n1, d1, q1⟩, hNd1, a51, a61, a71, a81⟩ := id hR1
  obtain ⟨⟨fs1, hO1, hF1⟩, -, -, -, -⟩ := id hk1
  have h0 : mdN M1 B v N := by have q := hNd1 v hv; rw [hN] at q; exact q
  have hv6 : v < 6 := by omega
  refine hz_aloadn (pc := 5) 0 (hz_dec kX12_told 3 rfl) rfl ?_
  refine hz_iloadn (pc := 6) 1 (hz_dec kX12_told 4 rfl) rfl ?_
  refine hz_xV (pc := 7) (a := B) (As := [.int (nI v)]) (st := []) (hz_dec kX12_told 5 rfl) co_X12_692 im_X12_stateOf se_X12_stateOf rfl hO1 h8 (by omega) (c_st hnn hR1 hv) rfl (by decide) ⟨Nat.le_refl _, Nat.le_refl _⟩ (Nat.le_of_ble_eq_true rfl) rfl ?_
  refine hz_eqi (pc := 10) eSt ?_
  refine hz_istoren (pc := 10) (i := 3) (lo2 := [(3, .int (-2)), (0, .ref B), (1, .int (nI v)), (2, .int (nI 5))]) (hz_dec kX12_told 6 rfl) rfl (by decide) rfl ?_
  refine hz_iloadn (pc := 11) 0 (hz_dec kX12_told 7 rfl) rfl ?_
  refine hz_iconst (pc := 12) (v := (-1)) (hz_dec kX12_told 8 rfl) (by decide) ?_
  refine hz_icmp_eq (pc := 13) (tgt := 26) (hz_dec kX12_told 9 rfl) (by decide) (fun hq1 => ?_) (fun hq1 => ?_)
  · skip
    exact absurd hq1 (by decide)
  · skip
    refine hz_iloadn (pc := 16) 3 (hz_dec kX12_told 10 rfl) rfl ?_
    refine hz_z_lt (pc := 17) (tgt := 26) (hz_dec kX12_told 11 rfl) (by decide) (by omega) ?_
    refine hz_iloadn (pc := 20) 3 (hz_dec kX12_told 12 rfl) rfl ?_
    refine hz_bipush (pc := 21) (v := nI 10) (hz_dec kX12_told 13 rfl) (by decide) ?_
    refine hz_n_le (pc := 23) (tgt := 28) (hz_dec kX12_told 14 rfl) (by decide) (by omega) (by omega) (fun hq3 => ?_) (fun hq3 => ?_)
    · skip
      refine hz_iloadn (pc := 28) 0 (hz_dec kX12_told 17 rfl) rfl ?_
      refine hz_bipush (pc := 29) (v := (-2)) (hz_dec kX12_told 18 rfl) (by decide) ?_
      refine hz_icmp_ne (pc := 31) (tgt := 47) (hz_dec kX12_told 19 rfl) (by decide) (fun hq4 => ?_) (fun hq4 => ?_)
      · skip
        exact absurd hq4 (by decide)
      · skip
        refine hz_iloadn (pc := 34) 3 (hz_dec kX12_told 20 rfl) rfl ?_
        refine hz_z_le (pc := 35) (tgt := 47) (hz_dec kX12_told 21 rfl) (by decide) (by omega) (fun hq5 => ?_) (fun hq5 => ?_)
        · skip
          exact absurd hq5 (by decide)
        · skip
          refine hz_iloadn (pc := 38) 3 (hz_dec kX12_told 22 rfl) rfl ?_
          refine hz_bipush (pc := 39) (v := nI 9) (hz_dec kX12_told 23 rfl) (by decide) ?_
          refine hz_n_ge (pc := 41) (tgt := 47) (hz_dec kX12_told 24 rfl) (by decide) (by omega) (by omega) (fun hq6 => ?_) (fun hq6 => ?_)
          · skip
            exact absurd hq6 (by decide)
          · skip
            refine hz_bipush (pc := 44) (v := (-4)) (hz_dec kX12_told 25 rfl) (by decide) ?_
            exact hz_iret (pc := 46) (hz_dec kX12_told 26 rfl) rfl ⟨rfl, rfl, hf1.S rfl, hR1⟩
    · skip
      exact absurd hq3 (by decide)
set_option maxHeartbeats 4000000 in
set_option maxRecDepth 100000 in
theorem c_toldD6 {κ : hz_C} {z : Nat} {M : hz_M} {H : ho_H} (hz : 63 + 34 * (hoN H).length ≤ z) (hnn : (hoN H).length ≤ 6) (hT4 : (hoT H).length ≤ 4000) {ll : Nat} {fr kn : Int32} (hR : hcR M z H ll fr kn) {v : Nat} (hv : v < (hoN H).length) {N : nd_N} (hN : ndL (hoN H) v = N) (hup : N.2.1 = false) : hz_Mt κ xX11_told 4 0 0 [.ref 8, .int (nI v), .int (nI 6)] z M (hcP M z H (.int (-4)) H) := by
  refine hz_ent (lo := [(0, .ref 8), (1, .int (nI v)), (2, .int (nI 6))]) (by decide) (Nat.le_of_ble_eq_true rfl) rfl ?_
  have hH := hR.1
  have hNs := hR.2.1
  obtain ⟨hO, hQ, hD⟩ := id hR.2.2.2.2.1
  obtain ⟨g53, h53⟩ := hR.2.2.2.2.2.1
  have hJ := hR.2.2.2.1
  obtain ⟨g56, h56, hT56⟩ := hR.2.2.2.2.2.2.2.2.2.1
  have hdf := hR.2.2.2.2.2.2.2.2.2.2
  have hck : ck_k M z := hJ.2.2.2.2.2.2.2.1
  have hcs : ck_s M := hJ.2.2.2.2.2.2.2.2.1
  have hz63 : 63 ≤ z := by omega
  have hK := hR.2.2.1 v hv
  rw [hN] at hK
  obtain ⟨hn, ⟨gd, hgd, hgD⟩, hT, hC, hP, hL⟩ := id hK
  have hn : M (63 + 34 * v) = ndO (63 + 34 * v) (nI v) (nI 0) (nI (ksN N.1)) (pvI (ksF N.1)) N.2.2.1 N.2.2.2 := by rw [hup] at hn; exact hn
  refine hz_aloadn (pc := 0) 0 (hz_dec kX11_told 0 rfl) rfl ?_
  refine hz_iloadn (pc := 1) 1 (hz_dec kX11_told 1 rfl) rfl ?_
  refine hz_xV (pc := 2) (a := 8) (As := [.int (nI v)]) (st := []) (hz_dec kX11_told 2 rfl) co_X11_162 im_X11_nodeOf se_X11_nodeOf rfl hH (by omega) (by omega) (c_nOf hz63 hH hnn hNs (b := v) hv) rfl (by decide) ⟨Nat.le_refl _, Nat.le_refl _⟩ (Nat.le_of_ble_eq_true rfl) rfl ?_
  refine hz_astoren (pc := 5) (i := 3) (lo2 := [(3, .ref (63 + 34 * v)), (0, .ref 8), (1, .int (nI v)), (2, .int (nI 6))]) (hz_dec kX11_told 3 rfl) rfl (by decide) rfl ?_
  refine hz_aloadn (pc := 6) 0 (hz_dec kX11_told 4 rfl) rfl ?_
  refine hz_ifnull (pc := 7) (hz_dec kX11_told 5 rfl) ?_
  refine hz_iloadn (pc := 10) 3 (hz_dec kX11_told 6 rfl) rfl ?_
  refine hz_z_lt (pc := 11) (tgt := 20) (hz_dec kX11_told 7 rfl) (by decide) (by omega) ?_
  refine hz_iloadn (pc := 14) 3 (hz_dec kX11_told 8 rfl) rfl ?_
  refine hz_bipush (pc := 15) (v := nI 10) (hz_dec kX11_told 9 rfl) (by decide) ?_
  refine hz_n_le (pc := 17) (tgt := 22) (hz_dec kX11_told 10 rfl) (by decide) (by omega) (by omega) (fun hq2 => ?_) (fun hq2 => ?_)
  · skip
    refine hz_aloadn (pc := 22) 0 (hz_dec kX11_told 13 rfl) rfl ?_
    refine hz_get (pc := 23) (hz_dec kX11_told 14 rfl) fo_X11_166 hn (by omega) (by omega) rfl ?_
    refine hz_z_ne (pc := 26) (tgt := 43) (hz_dec kX11_told 15 rfl) (by decide) (by omega) (fun hq3 => ?_) (fun hq3 => ?_)
    · skip
      exact absurd hq3 (by decide)
    · skip
      refine hz_iloadn (pc := 29) 3 (hz_dec kX11_told 16 rfl) rfl ?_
      refine hz_iconst (pc := 30) (v := nI 1) (hz_dec kX11_told 17 rfl) (by decide) ?_
      refine hz_n_lt (pc := 31) (tgt := 43) (hz_dec kX11_told 18 rfl) (by decide) (by omega) (by omega) (fun hq4 => ?_) (fun hq4 => ?_)
      · skip
        exact absurd hq4 (by decide)
      · skip
        refine hz_iloadn (pc := 34) 3 (hz_dec kX11_told 19 rfl) rfl ?_
        refine hz_bipush (pc := 35) (v := nI 8) (hz_dec kX11_told 20 rfl) (by decide) ?_
        refine hz_n_gt (pc := 37) (tgt := 43) (hz_dec kX11_told 21 rfl) (by decide) (by omega) (by omega) (fun hq5 => ?_) (fun hq5 => ?_)
        · skip
          exact absurd hq5 (by decide)
        · skip
          refine hz_bipush (pc := 40) (v := (-4)) (hz_dec kX11_told 22 rfl) (by decide) ?_
          exact hz_iret (pc := 42) (hz_dec kX11_told 23 rfl) rfl (hcP.no hR _)
  · skip
    exact absurd hq2 (by decide)
set_option maxHeartbeats 4000000 in
set_option maxRecDepth 100000 in
theorem c_rtoldD6 {κ : hz_C} {z B : Nat} {M : hz_M} {H : ho_H} (hnn : (hoN H).length ≤ 6) (hT4 : (hoT H).length ≤ 4000) (hR : hmR M z B H) {v : Nat} (hv : v < (hoN H).length) {N : nd_N} (hN : ndL (hoN H) v = N) (hup : N.2.1 = false) : hz_Mt κ xX12_told 4 0 0 [.ref B, .int (nI v), .int (nI 6)] z M (hmP M z B (.int (-4)) H) := by
  refine hz_ent (lo := [(0, .ref B), (1, .int (nI v)), (2, .int (nI 6))]) (by decide) (Nat.le_of_ble_eq_true rfl) rfl ?_
  obtain ⟨hk0_, hE0, ⟨m1, m2, m3⟩, hNd, a5, a6, a7, a8⟩ := id hR
  obtain ⟨⟨fs, hO, hF⟩, -, -, h8, hz⟩ := id hk0_
  obtain ⟨x1, x3, x4, x5, x6, x7, x8⟩ := id m3
  have eSt : stI (ndL (hoN H) v).2.1 = (-2) := by rw [hN, hup]; rfl
  refine hz_aloadn (pc := 0) 0 (hz_dec kX12_told 0 rfl) rfl ?_
  refine hz_iconst (pc := 1) (v := nI 0) (hz_dec kX12_told 1 rfl) (by decide) ?_
  refine hz_puti (pc := 2) (hz_dec kX12_told 2 rfl) fo_X12_302 ft_X12_0 hO h8 (by omega) (by rw [hF.1]; decide) ?_
  have hf1 : mfr B [0, 89] [] M (va_up M B (.inr (12, (List.set fs 0 (.int (nI 0)))))) := (mfr.rf ⟨fs, hO, hF⟩).upO (k := 0) hO hF rfl rfl
  have hR1 : hmR (va_up M B (.inr (12, (List.set fs 0 (.int (nI 0)))))) z B H := hR.m0 hf1 hE0.upO ((fdB_of (va_up_self _ _ _) 89).trans ((List.getElem?_set_ne (by decide)).trans ((fdB_of hO 89).symm.trans x8)))
  generalize (va_up M B (.inr (12, (List.set fs 0 (.int (nI 0)))))) = M1 at *
  obtain ⟨hk1, hE1, ⟨n1, d1, q1⟩, hNd1, a51, a61, a71, a81⟩ := id hR1
  obtain ⟨⟨fs1, hO1, hF1⟩, -, -, -, -⟩ := id hk1
  have h0 : mdN M1 B v N := by have q := hNd1 v hv; rw [hN] at q; exact q
  have hv6 : v < 6 := by omega
  refine hz_aloadn (pc := 5) 0 (hz_dec kX12_told 3 rfl) rfl ?_
  refine hz_iloadn (pc := 6) 1 (hz_dec kX12_told 4 rfl) rfl ?_
  refine hz_xV (pc := 7) (a := B) (As := [.int (nI v)]) (st := []) (hz_dec kX12_told 5 rfl) co_X12_692 im_X12_stateOf se_X12_stateOf rfl hO1 h8 (by omega) (c_st hnn hR1 hv) rfl (by decide) ⟨Nat.le_refl _, Nat.le_refl _⟩ (Nat.le_of_ble_eq_true rfl) rfl ?_
  refine hz_eqi (pc := 10) eSt ?_
  refine hz_istoren (pc := 10) (i := 3) (lo2 := [(3, .int (-2)), (0, .ref B), (1, .int (nI v)), (2, .int (nI 6))]) (hz_dec kX12_told 6 rfl) rfl (by decide) rfl ?_
  refine hz_iloadn (pc := 11) 0 (hz_dec kX12_told 7 rfl) rfl ?_
  refine hz_iconst (pc := 12) (v := (-1)) (hz_dec kX12_told 8 rfl) (by decide) ?_
  refine hz_icmp_eq (pc := 13) (tgt := 26) (hz_dec kX12_told 9 rfl) (by decide) (fun hq1 => ?_) (fun hq1 => ?_)
  · skip
    exact absurd hq1 (by decide)
  · skip
    refine hz_iloadn (pc := 16) 3 (hz_dec kX12_told 10 rfl) rfl ?_
    refine hz_z_lt (pc := 17) (tgt := 26) (hz_dec kX12_told 11 rfl) (by decide) (by omega) ?_
    refine hz_iloadn (pc := 20) 3 (hz_dec kX12_told 12 rfl) rfl ?_
    refine hz_bipush (pc := 21) (v := nI 10) (hz_dec kX12_told 13 rfl) (by decide) ?_
    refine hz_n_le (pc := 23) (tgt := 28) (hz_dec kX12_told 14 rfl) (by decide) (by omega) (by omega) (fun hq3 => ?_) (fun hq3 => ?_)
    · skip
      refine hz_iloadn (pc := 28) 0 (hz_dec kX12_told 17 rfl) rfl ?_
      refine hz_bipush (pc := 29) (v := (-2)) (hz_dec kX12_told 18 rfl) (by decide) ?_
      refine hz_icmp_ne (pc := 31) (tgt := 47) (hz_dec kX12_told 19 rfl) (by decide) (fun hq4 => ?_) (fun hq4 => ?_)
      · skip
        exact absurd hq4 (by decide)
      · skip
        refine hz_iloadn (pc := 34) 3 (hz_dec kX12_told 20 rfl) rfl ?_
        refine hz_z_le (pc := 35) (tgt := 47) (hz_dec kX12_told 21 rfl) (by decide) (by omega) (fun hq5 => ?_) (fun hq5 => ?_)
        · skip
          exact absurd hq5 (by decide)
        · skip
          refine hz_iloadn (pc := 38) 3 (hz_dec kX12_told 22 rfl) rfl ?_
          refine hz_bipush (pc := 39) (v := nI 9) (hz_dec kX12_told 23 rfl) (by decide) ?_
          refine hz_n_ge (pc := 41) (tgt := 47) (hz_dec kX12_told 24 rfl) (by decide) (by omega) (by omega) (fun hq6 => ?_) (fun hq6 => ?_)
          · skip
            exact absurd hq6 (by decide)
          · skip
            refine hz_bipush (pc := 44) (v := (-4)) (hz_dec kX12_told 25 rfl) (by decide) ?_
            exact hz_iret (pc := 46) (hz_dec kX12_told 26 rfl) rfl ⟨rfl, rfl, hf1.S rfl, hR1⟩
    · skip
      exact absurd hq3 (by decide)
set_option maxHeartbeats 4000000 in
set_option maxRecDepth 100000 in
theorem c_toldD7 {κ : hz_C} {z : Nat} {M : hz_M} {H : ho_H} (hz : 63 + 34 * (hoN H).length ≤ z) (hnn : (hoN H).length ≤ 6) (hT4 : (hoT H).length ≤ 4000) {ll : Nat} {fr kn : Int32} (hR : hcR M z H ll fr kn) {v : Nat} (hv : v < (hoN H).length) {N : nd_N} (hN : ndL (hoN H) v = N) (hup : N.2.1 = false) : hz_Mt κ xX11_told 4 0 0 [.ref 8, .int (nI v), .int (nI 7)] z M (hcP M z H (.int (-4)) H) := by
  refine hz_ent (lo := [(0, .ref 8), (1, .int (nI v)), (2, .int (nI 7))]) (by decide) (Nat.le_of_ble_eq_true rfl) rfl ?_
  have hH := hR.1
  have hNs := hR.2.1
  obtain ⟨hO, hQ, hD⟩ := id hR.2.2.2.2.1
  obtain ⟨g53, h53⟩ := hR.2.2.2.2.2.1
  have hJ := hR.2.2.2.1
  obtain ⟨g56, h56, hT56⟩ := hR.2.2.2.2.2.2.2.2.2.1
  have hdf := hR.2.2.2.2.2.2.2.2.2.2
  have hck : ck_k M z := hJ.2.2.2.2.2.2.2.1
  have hcs : ck_s M := hJ.2.2.2.2.2.2.2.2.1
  have hz63 : 63 ≤ z := by omega
  have hK := hR.2.2.1 v hv
  rw [hN] at hK
  obtain ⟨hn, ⟨gd, hgd, hgD⟩, hT, hC, hP, hL⟩ := id hK
  have hn : M (63 + 34 * v) = ndO (63 + 34 * v) (nI v) (nI 0) (nI (ksN N.1)) (pvI (ksF N.1)) N.2.2.1 N.2.2.2 := by rw [hup] at hn; exact hn
  refine hz_aloadn (pc := 0) 0 (hz_dec kX11_told 0 rfl) rfl ?_
  refine hz_iloadn (pc := 1) 1 (hz_dec kX11_told 1 rfl) rfl ?_
  refine hz_xV (pc := 2) (a := 8) (As := [.int (nI v)]) (st := []) (hz_dec kX11_told 2 rfl) co_X11_162 im_X11_nodeOf se_X11_nodeOf rfl hH (by omega) (by omega) (c_nOf hz63 hH hnn hNs (b := v) hv) rfl (by decide) ⟨Nat.le_refl _, Nat.le_refl _⟩ (Nat.le_of_ble_eq_true rfl) rfl ?_
  refine hz_astoren (pc := 5) (i := 3) (lo2 := [(3, .ref (63 + 34 * v)), (0, .ref 8), (1, .int (nI v)), (2, .int (nI 7))]) (hz_dec kX11_told 3 rfl) rfl (by decide) rfl ?_
  refine hz_aloadn (pc := 6) 0 (hz_dec kX11_told 4 rfl) rfl ?_
  refine hz_ifnull (pc := 7) (hz_dec kX11_told 5 rfl) ?_
  refine hz_iloadn (pc := 10) 3 (hz_dec kX11_told 6 rfl) rfl ?_
  refine hz_z_lt (pc := 11) (tgt := 20) (hz_dec kX11_told 7 rfl) (by decide) (by omega) ?_
  refine hz_iloadn (pc := 14) 3 (hz_dec kX11_told 8 rfl) rfl ?_
  refine hz_bipush (pc := 15) (v := nI 10) (hz_dec kX11_told 9 rfl) (by decide) ?_
  refine hz_n_le (pc := 17) (tgt := 22) (hz_dec kX11_told 10 rfl) (by decide) (by omega) (by omega) (fun hq2 => ?_) (fun hq2 => ?_)
  · skip
    refine hz_aloadn (pc := 22) 0 (hz_dec kX11_told 13 rfl) rfl ?_
    refine hz_get (pc := 23) (hz_dec kX11_told 14 rfl) fo_X11_166 hn (by omega) (by omega) rfl ?_
    refine hz_z_ne (pc := 26) (tgt := 43) (hz_dec kX11_told 15 rfl) (by decide) (by omega) (fun hq3 => ?_) (fun hq3 => ?_)
    · skip
      exact absurd hq3 (by decide)
    · skip
      refine hz_iloadn (pc := 29) 3 (hz_dec kX11_told 16 rfl) rfl ?_
      refine hz_iconst (pc := 30) (v := nI 1) (hz_dec kX11_told 17 rfl) (by decide) ?_
      refine hz_n_lt (pc := 31) (tgt := 43) (hz_dec kX11_told 18 rfl) (by decide) (by omega) (by omega) (fun hq4 => ?_) (fun hq4 => ?_)
      · skip
        exact absurd hq4 (by decide)
      · skip
        refine hz_iloadn (pc := 34) 3 (hz_dec kX11_told 19 rfl) rfl ?_
        refine hz_bipush (pc := 35) (v := nI 8) (hz_dec kX11_told 20 rfl) (by decide) ?_
        refine hz_n_gt (pc := 37) (tgt := 43) (hz_dec kX11_told 21 rfl) (by decide) (by omega) (by omega) (fun hq5 => ?_) (fun hq5 => ?_)
        · skip
          exact absurd hq5 (by decide)
        · skip
          refine hz_bipush (pc := 40) (v := (-4)) (hz_dec kX11_told 22 rfl) (by decide) ?_
          exact hz_iret (pc := 42) (hz_dec kX11_told 23 rfl) rfl (hcP.no hR _)
  · skip
    exact absurd hq2 (by decide)
set_option maxHeartbeats 4000000 in
set_option maxRecDepth 100000 in
theorem c_rtoldD7 {κ : hz_C} {z B : Nat} {M : hz_M} {H : ho_H} (hnn : (hoN H).length ≤ 6) (hT4 : (hoT H).length ≤ 4000) (hR : hmR M z B H) {v : Nat} (hv : v < (hoN H).length) {N : nd_N} (hN : ndL (hoN H) v = N) (hup : N.2.1 = false) : hz_Mt κ xX12_told 4 0 0 [.ref B, .int (nI v), .int (nI 7)] z M (hmP M z B (.int (-4)) H) := by
  refine hz_ent (lo := [(0, .ref B), (1, .int (nI v)), (2, .int (nI 7))]) (by decide) (Nat.le_of_ble_eq_true rfl) rfl ?_
  obtain ⟨hk0_, hE0, ⟨m1, m2, m3⟩, hNd, a5, a6, a7, a8⟩ := id hR
  obtain ⟨⟨fs, hO, hF⟩, -, -, h8, hz⟩ := id hk0_
  obtain ⟨x1, x3, x4, x5, x6, x7, x8⟩ := id m3
  have eSt : stI (ndL (hoN H) v).2.1 = (-2) := by rw [hN, hup]; rfl
  refine hz_aloadn (pc := 0) 0 (hz_dec kX12_told 0 rfl) rfl ?_
  refine hz_iconst (pc := 1) (v := nI 0) (hz_dec kX12_told 1 rfl) (by decide) ?_
  refine hz_puti (pc := 2) (hz_dec kX12_told 2 rfl) fo_X12_302 ft_X12_0 hO h8 (by omega) (by rw [hF.1]; decide) ?_
  have hf1 : mfr B [0, 89] [] M (va_up M B (.inr (12, (List.set fs 0 (.int (nI 0)))))) := (mfr.rf ⟨fs, hO, hF⟩).upO (k := 0) hO hF rfl rfl
  have hR1 : hmR (va_up M B (.inr (12, (List.set fs 0 (.int (nI 0)))))) z B H := hR.m0 hf1 hE0.upO ((fdB_of (va_up_self _ _ _) 89).trans ((List.getElem?_set_ne (by decide)).trans ((fdB_of hO 89).symm.trans x8)))
  generalize (va_up M B (.inr (12, (List.set fs 0 (.int (nI 0)))))) = M1 at *
  obtain ⟨hk1, hE1, ⟨n1, d1, q1⟩, hNd1, a51, a61, a71, a81⟩ := id hR1
  obtain ⟨⟨fs1, hO1, hF1⟩, -, -, -, -⟩ := id hk1
  have h0 : mdN M1 B v N := by have q := hNd1 v hv; rw [hN] at q; exact q
  have hv6 : v < 6 := by omega
  refine hz_aloadn (pc := 5) 0 (hz_dec kX12_told 3 rfl) rfl ?_
  refine hz_iloadn (pc := 6) 1 (hz_dec kX12_told 4 rfl) rfl ?_
  refine hz_xV (pc := 7) (a := B) (As := [.int (nI v)]) (st := []) (hz_dec kX12_told 5 rfl) co_X12_692 im_X12_stateOf se_X12_stateOf rfl hO1 h8 (by omega) (c_st hnn hR1 hv) rfl (by decide) ⟨Nat.le_refl _, Nat.le_refl _⟩ (Nat.le_of_ble_eq_true rfl) rfl ?_
  refine hz_eqi (pc := 10) eSt ?_
  refine hz_istoren (pc := 10) (i := 3) (lo2 := [(3, .int (-2)), (0, .ref B), (1, .int (nI v)), (2, .int (nI 7))]) (hz_dec kX12_told 6 rfl) rfl (by decide) rfl ?_
  refine hz_iloadn (pc := 11) 0 (hz_dec kX12_told 7 rfl) rfl ?_
  refine hz_iconst (pc := 12) (v := (-1)) (hz_dec kX12_told 8 rfl) (by decide) ?_
  refine hz_icmp_eq (pc := 13) (tgt := 26) (hz_dec kX12_told 9 rfl) (by decide) (fun hq1 => ?_) (fun hq1 => ?_)
  · skip
    exact absurd hq1 (by decide)
  · skip
    refine hz_iloadn (pc := 16) 3 (hz_dec kX12_told 10 rfl) rfl ?_
    refine hz_z_lt (pc := 17) (tgt := 26) (hz_dec kX12_told 11 rfl) (by decide) (by omega) ?_
    refine hz_iloadn (pc := 20) 3 (hz_dec kX12_told 12 rfl) rfl ?_
    refine hz_bipush (pc := 21) (v := nI 10) (hz_dec kX12_told 13 rfl) (by decide) ?_
    refine hz_n_le (pc := 23) (tgt := 28) (hz_dec kX12_told 14 rfl) (by decide) (by omega) (by omega) (fun hq3 => ?_) (fun hq3 => ?_)
    · skip
      refine hz_iloadn (pc := 28) 0 (hz_dec kX12_told 17 rfl) rfl ?_
      refine hz_bipush (pc := 29) (v := (-2)) (hz_dec kX12_told 18 rfl) (by decide) ?_
      refine hz_icmp_ne (pc := 31) (tgt := 47) (hz_dec kX12_told 19 rfl) (by decide) (fun hq4 => ?_) (fun hq4 => ?_)
      · skip
        exact absurd hq4 (by decide)
      · skip
        refine hz_iloadn (pc := 34) 3 (hz_dec kX12_told 20 rfl) rfl ?_
        refine hz_z_le (pc := 35) (tgt := 47) (hz_dec kX12_told 21 rfl) (by decide) (by omega) (fun hq5 => ?_) (fun hq5 => ?_)
        · skip
          exact absurd hq5 (by decide)
        · skip
          refine hz_iloadn (pc := 38) 3 (hz_dec kX12_told 22 rfl) rfl ?_
          refine hz_bipush (pc := 39) (v := nI 9) (hz_dec kX12_told 23 rfl) (by decide) ?_
          refine hz_n_ge (pc := 41) (tgt := 47) (hz_dec kX12_told 24 rfl) (by decide) (by omega) (by omega) (fun hq6 => ?_) (fun hq6 => ?_)
          · skip
            exact absurd hq6 (by decide)
          · skip
            refine hz_bipush (pc := 44) (v := (-4)) (hz_dec kX12_told 25 rfl) (by decide) ?_
            exact hz_iret (pc := 46) (hz_dec kX12_told 26 rfl) rfl ⟨rfl, rfl, hf1.S rfl, hR1⟩
    · skip
      exact absurd hq3 (by decide)
set_option maxHeartbeats 4000000 in
set_option maxRecDepth 100000 in
theorem c_toldD8 {κ : hz_C} {z : Nat} {M : hz_M} {H : ho_H} (hz : 63 + 34 * (hoN H).length ≤ z) (hnn : (hoN H).length ≤ 6) (hT4 : (hoT H).length ≤ 4000) {ll : Nat} {fr kn : Int32} (hR : hcR M z H ll fr kn) {v : Nat} (hv : v < (hoN H).length) {N : nd_N} (hN : ndL (hoN H) v = N) (hup : N.2.1 = false) : hz_Mt κ xX11_told 4 0 0 [.ref 8, .int (nI v), .int (nI 8)] z M (hcP M z H (.int (-4)) H) := by
  refine hz_ent (lo := [(0, .ref 8), (1, .int (nI v)), (2, .int (nI 8))]) (by decide) (Nat.le_of_ble_eq_true rfl) rfl ?_
  have hH := hR.1
  have hNs := hR.2.1
  obtain ⟨hO, hQ, hD⟩ := id hR.2.2.2.2.1
  obtain ⟨g53, h53⟩ := hR.2.2.2.2.2.1
  have hJ := hR.2.2.2.1
  obtain ⟨g56, h56, hT56⟩ := hR.2.2.2.2.2.2.2.2.2.1
  have hdf := hR.2.2.2.2.2.2.2.2.2.2
  have hck : ck_k M z := hJ.2.2.2.2.2.2.2.1
  have hcs : ck_s M := hJ.2.2.2.2.2.2.2.2.1
  have hz63 : 63 ≤ z := by omega
  have hK := hR.2.2.1 v hv
  rw [hN] at hK
  obtain ⟨hn, ⟨gd, hgd, hgD⟩, hT, hC, hP, hL⟩ := id hK
  have hn : M (63 + 34 * v) = ndO (63 + 34 * v) (nI v) (nI 0) (nI (ksN N.1)) (pvI (ksF N.1)) N.2.2.1 N.2.2.2 := by rw [hup] at hn; exact hn
  refine hz_aloadn (pc := 0) 0 (hz_dec kX11_told 0 rfl) rfl ?_
  refine hz_iloadn (pc := 1) 1 (hz_dec kX11_told 1 rfl) rfl ?_
  refine hz_xV (pc := 2) (a := 8) (As := [.int (nI v)]) (st := []) (hz_dec kX11_told 2 rfl) co_X11_162 im_X11_nodeOf se_X11_nodeOf rfl hH (by omega) (by omega) (c_nOf hz63 hH hnn hNs (b := v) hv) rfl (by decide) ⟨Nat.le_refl _, Nat.le_refl _⟩ (Nat.le_of_ble_eq_true rfl) rfl ?_
  refine hz_astoren (pc := 5) (i := 3) (lo2 := [(3, .ref (63 + 34 * v)), (0, .ref 8), (1, .int (nI v)), (2, .int (nI 8))]) (hz_dec kX11_told 3 rfl) rfl (by decide) rfl ?_
  refine hz_aloadn (pc := 6) 0 (hz_dec kX11_told 4 rfl) rfl ?_
  refine hz_ifnull (pc := 7) (hz_dec kX11_told 5 rfl) ?_
  refine hz_iloadn (pc := 10) 3 (hz_dec kX11_told 6 rfl) rfl ?_
  refine hz_z_lt (pc := 11) (tgt := 20) (hz_dec kX11_told 7 rfl) (by decide) (by omega) ?_
  refine hz_iloadn (pc := 14) 3 (hz_dec kX11_told 8 rfl) rfl ?_
  refine hz_bipush (pc := 15) (v := nI 10) (hz_dec kX11_told 9 rfl) (by decide) ?_
  refine hz_n_le (pc := 17) (tgt := 22) (hz_dec kX11_told 10 rfl) (by decide) (by omega) (by omega) (fun hq2 => ?_) (fun hq2 => ?_)
  · skip
    refine hz_aloadn (pc := 22) 0 (hz_dec kX11_told 13 rfl) rfl ?_
    refine hz_get (pc := 23) (hz_dec kX11_told 14 rfl) fo_X11_166 hn (by omega) (by omega) rfl ?_
    refine hz_z_ne (pc := 26) (tgt := 43) (hz_dec kX11_told 15 rfl) (by decide) (by omega) (fun hq3 => ?_) (fun hq3 => ?_)
    · skip
      exact absurd hq3 (by decide)
    · skip
      refine hz_iloadn (pc := 29) 3 (hz_dec kX11_told 16 rfl) rfl ?_
      refine hz_iconst (pc := 30) (v := nI 1) (hz_dec kX11_told 17 rfl) (by decide) ?_
      refine hz_n_lt (pc := 31) (tgt := 43) (hz_dec kX11_told 18 rfl) (by decide) (by omega) (by omega) (fun hq4 => ?_) (fun hq4 => ?_)
      · skip
        exact absurd hq4 (by decide)
      · skip
        refine hz_iloadn (pc := 34) 3 (hz_dec kX11_told 19 rfl) rfl ?_
        refine hz_bipush (pc := 35) (v := nI 8) (hz_dec kX11_told 20 rfl) (by decide) ?_
        refine hz_n_gt (pc := 37) (tgt := 43) (hz_dec kX11_told 21 rfl) (by decide) (by omega) (by omega) (fun hq5 => ?_) (fun hq5 => ?_)
        · skip
          exact absurd hq5 (by decide)
        · skip
          refine hz_bipush (pc := 40) (v := (-4)) (hz_dec kX11_told 22 rfl) (by decide) ?_
          exact hz_iret (pc := 42) (hz_dec kX11_told 23 rfl) rfl (hcP.no hR _)
  · skip
    exact absurd hq2 (by decide)
set_option maxHeartbeats 4000000 in
set_option maxRecDepth 100000 in
theorem c_rtoldD8 {κ : hz_C} {z B : Nat} {M : hz_M} {H : ho_H} (hnn : (hoN H).length ≤ 6) (hT4 : (hoT H).length ≤ 4000) (hR : hmR M z B H) {v : Nat} (hv : v < (hoN H).length) {N : nd_N} (hN : ndL (hoN H) v = N) (hup : N.2.1 = false) : hz_Mt κ xX12_told 4 0 0 [.ref B, .int (nI v), .int (nI 8)] z M (hmP M z B (.int (-4)) H) := by
  refine hz_ent (lo := [(0, .ref B), (1, .int (nI v)), (2, .int (nI 8))]) (by decide) (Nat.le_of_ble_eq_true rfl) rfl ?_
  obtain ⟨hk0_, hE0, ⟨m1, m2, m3⟩, hNd, a5, a6, a7, a8⟩ := id hR
  obtain ⟨⟨fs, hO, hF⟩, -, -, h8, hz⟩ := id hk0_
  obtain ⟨x1, x3, x4, x5, x6, x7, x8⟩ := id m3
  have eSt : stI (ndL (hoN H) v).2.1 = (-2) := by rw [hN, hup]; rfl
  refine hz_aloadn (pc := 0) 0 (hz_dec kX12_told 0 rfl) rfl ?_
  refine hz_iconst (pc := 1) (v := nI 0) (hz_dec kX12_told 1 rfl) (by decide) ?_
  refine hz_puti (pc := 2) (hz_dec kX12_told 2 rfl) fo_X12_302 ft_X12_0 hO h8 (by omega) (by rw [hF.1]; decide) ?_
  have hf1 : mfr B [0, 89] [] M (va_up M B (.inr (12, (List.set fs 0 (.int (nI 0)))))) := (mfr.rf ⟨fs, hO, hF⟩).upO (k := 0) hO hF rfl rfl
  have hR1 : hmR (va_up M B (.inr (12, (List.set fs 0 (.int (nI 0)))))) z B H := hR.m0 hf1 hE0.upO ((fdB_of (va_up_self _ _ _) 89).trans ((List.getElem?_set_ne (by decide)).trans ((fdB_of hO 89).symm.trans x8)))
  generalize (va_up M B (.inr (12, (List.set fs 0 (.int (nI 0)))))) = M1 at *
  obtain ⟨hk1, hE1, ⟨n1, d1, q1⟩, hNd1, a51, a61, a71, a81⟩ := id hR1
  obtain ⟨⟨fs1, hO1, hF1⟩, -, -, -, -⟩ := id hk1
  have h0 : mdN M1 B v N := by have q := hNd1 v hv; rw [hN] at q; exact q
  have hv6 : v < 6 := by omega
  refine hz_aloadn (pc := 5) 0 (hz_dec kX12_told 3 rfl) rfl ?_
  refine hz_iloadn (pc := 6) 1 (hz_dec kX12_told 4 rfl) rfl ?_
  refine hz_xV (pc := 7) (a := B) (As := [.int (nI v)]) (st := []) (hz_dec kX12_told 5 rfl) co_X12_692 im_X12_stateOf se_X12_stateOf rfl hO1 h8 (by omega) (c_st hnn hR1 hv) rfl (by decide) ⟨Nat.le_refl _, Nat.le_refl _⟩ (Nat.le_of_ble_eq_true rfl) rfl ?_
  refine hz_eqi (pc := 10) eSt ?_
  refine hz_istoren (pc := 10) (i := 3) (lo2 := [(3, .int (-2)), (0, .ref B), (1, .int (nI v)), (2, .int (nI 8))]) (hz_dec kX12_told 6 rfl) rfl (by decide) rfl ?_
  refine hz_iloadn (pc := 11) 0 (hz_dec kX12_told 7 rfl) rfl ?_
  refine hz_iconst (pc := 12) (v := (-1)) (hz_dec kX12_told 8 rfl) (by decide) ?_
  refine hz_icmp_eq (pc := 13) (tgt := 26) (hz_dec kX12_told 9 rfl) (by decide) (fun hq1 => ?_) (fun hq1 => ?_)
  · skip
    exact absurd hq1 (by decide)
  · skip
    refine hz_iloadn (pc := 16) 3 (hz_dec kX12_told 10 rfl) rfl ?_
    refine hz_z_lt (pc := 17) (tgt := 26) (hz_dec kX12_told 11 rfl) (by decide) (by omega) ?_
    refine hz_iloadn (pc := 20) 3 (hz_dec kX12_told 12 rfl) rfl ?_
    refine hz_bipush (pc := 21) (v := nI 10) (hz_dec kX12_told 13 rfl) (by decide) ?_
    refine hz_n_le (pc := 23) (tgt := 28) (hz_dec kX12_told 14 rfl) (by decide) (by omega) (by omega) (fun hq3 => ?_) (fun hq3 => ?_)
    · skip
      refine hz_iloadn (pc := 28) 0 (hz_dec kX12_told 17 rfl) rfl ?_
      refine hz_bipush (pc := 29) (v := (-2)) (hz_dec kX12_told 18 rfl) (by decide) ?_
      refine hz_icmp_ne (pc := 31) (tgt := 47) (hz_dec kX12_told 19 rfl) (by decide) (fun hq4 => ?_) (fun hq4 => ?_)
      · skip
        exact absurd hq4 (by decide)
      · skip
        refine hz_iloadn (pc := 34) 3 (hz_dec kX12_told 20 rfl) rfl ?_
        refine hz_z_le (pc := 35) (tgt := 47) (hz_dec kX12_told 21 rfl) (by decide) (by omega) (fun hq5 => ?_) (fun hq5 => ?_)
        · skip
          exact absurd hq5 (by decide)
        · skip
          refine hz_iloadn (pc := 38) 3 (hz_dec kX12_told 22 rfl) rfl ?_
          refine hz_bipush (pc := 39) (v := nI 9) (hz_dec kX12_told 23 rfl) (by decide) ?_
          refine hz_n_ge (pc := 41) (tgt := 47) (hz_dec kX12_told 24 rfl) (by decide) (by omega) (by omega) (fun hq6 => ?_) (fun hq6 => ?_)
          · skip
            exact absurd hq6 (by decide)
          · skip
            refine hz_bipush (pc := 44) (v := (-4)) (hz_dec kX12_told 25 rfl) (by decide) ?_
            exact hz_iret (pc := 46) (hz_dec kX12_told 26 rfl) rfl ⟨rfl, rfl, hf1.S rfl, hR1⟩
    · skip
      exact absurd hq3 (by decide)
set_option maxHeartbeats 4000000 in
set_option maxRecDepth 100000 in
theorem c_toldD9 {κ : hz_C} {z : Nat} {M : hz_M} {H : ho_H} (hz : 63 + 34 * (hoN H).length ≤ z) (hnn : (hoN H).length ≤ 6) (hT4 : (hoT H).length ≤ 4000) {ll : Nat} {fr kn : Int32} (hR : hcR M z H ll fr kn) {v : Nat} (hv : v < (hoN H).length) {N : nd_N} (hN : ndL (hoN H) v = N) (hup : N.2.1 = false) : hz_Mt κ xX11_told 4 0 0 [.ref 8, .int (nI v), .int (nI 9)] z M (hcP M z H (.int (N.2.2.1)) H) := by
  refine hz_ent (lo := [(0, .ref 8), (1, .int (nI v)), (2, .int (nI 9))]) (by decide) (Nat.le_of_ble_eq_true rfl) rfl ?_
  have hH := hR.1
  have hNs := hR.2.1
  obtain ⟨hO, hQ, hD⟩ := id hR.2.2.2.2.1
  obtain ⟨g53, h53⟩ := hR.2.2.2.2.2.1
  have hJ := hR.2.2.2.1
  obtain ⟨g56, h56, hT56⟩ := hR.2.2.2.2.2.2.2.2.2.1
  have hdf := hR.2.2.2.2.2.2.2.2.2.2
  have hck : ck_k M z := hJ.2.2.2.2.2.2.2.1
  have hcs : ck_s M := hJ.2.2.2.2.2.2.2.2.1
  have hz63 : 63 ≤ z := by omega
  have hK := hR.2.2.1 v hv
  rw [hN] at hK
  obtain ⟨hn, ⟨gd, hgd, hgD⟩, hT, hC, hP, hL⟩ := id hK
  have hn : M (63 + 34 * v) = ndO (63 + 34 * v) (nI v) (nI 0) (nI (ksN N.1)) (pvI (ksF N.1)) N.2.2.1 N.2.2.2 := by rw [hup] at hn; exact hn
  refine hz_aloadn (pc := 0) 0 (hz_dec kX11_told 0 rfl) rfl ?_
  refine hz_iloadn (pc := 1) 1 (hz_dec kX11_told 1 rfl) rfl ?_
  refine hz_xV (pc := 2) (a := 8) (As := [.int (nI v)]) (st := []) (hz_dec kX11_told 2 rfl) co_X11_162 im_X11_nodeOf se_X11_nodeOf rfl hH (by omega) (by omega) (c_nOf hz63 hH hnn hNs (b := v) hv) rfl (by decide) ⟨Nat.le_refl _, Nat.le_refl _⟩ (Nat.le_of_ble_eq_true rfl) rfl ?_
  refine hz_astoren (pc := 5) (i := 3) (lo2 := [(3, .ref (63 + 34 * v)), (0, .ref 8), (1, .int (nI v)), (2, .int (nI 9))]) (hz_dec kX11_told 3 rfl) rfl (by decide) rfl ?_
  refine hz_aloadn (pc := 6) 0 (hz_dec kX11_told 4 rfl) rfl ?_
  refine hz_ifnull (pc := 7) (hz_dec kX11_told 5 rfl) ?_
  refine hz_iloadn (pc := 10) 3 (hz_dec kX11_told 6 rfl) rfl ?_
  refine hz_z_lt (pc := 11) (tgt := 20) (hz_dec kX11_told 7 rfl) (by decide) (by omega) ?_
  refine hz_iloadn (pc := 14) 3 (hz_dec kX11_told 8 rfl) rfl ?_
  refine hz_bipush (pc := 15) (v := nI 10) (hz_dec kX11_told 9 rfl) (by decide) ?_
  refine hz_n_le (pc := 17) (tgt := 22) (hz_dec kX11_told 10 rfl) (by decide) (by omega) (by omega) (fun hq2 => ?_) (fun hq2 => ?_)
  · skip
    refine hz_aloadn (pc := 22) 0 (hz_dec kX11_told 13 rfl) rfl ?_
    refine hz_get (pc := 23) (hz_dec kX11_told 14 rfl) fo_X11_166 hn (by omega) (by omega) rfl ?_
    refine hz_z_ne (pc := 26) (tgt := 43) (hz_dec kX11_told 15 rfl) (by decide) (by omega) (fun hq3 => ?_) (fun hq3 => ?_)
    · skip
      exact absurd hq3 (by decide)
    · skip
      refine hz_iloadn (pc := 29) 3 (hz_dec kX11_told 16 rfl) rfl ?_
      refine hz_iconst (pc := 30) (v := nI 1) (hz_dec kX11_told 17 rfl) (by decide) ?_
      refine hz_n_lt (pc := 31) (tgt := 43) (hz_dec kX11_told 18 rfl) (by decide) (by omega) (by omega) (fun hq4 => ?_) (fun hq4 => ?_)
      · skip
        exact absurd hq4 (by decide)
      · skip
        refine hz_iloadn (pc := 34) 3 (hz_dec kX11_told 19 rfl) rfl ?_
        refine hz_bipush (pc := 35) (v := nI 8) (hz_dec kX11_told 20 rfl) (by decide) ?_
        refine hz_n_gt (pc := 37) (tgt := 43) (hz_dec kX11_told 21 rfl) (by decide) (by omega) (by omega) (fun hq5 => ?_) (fun hq5 => ?_)
        · skip
          refine hz_iloadn (pc := 43) 3 (hz_dec kX11_told 24 rfl) rfl ?_
          refine hz_swIn (pc := 44) (off := 150) (tgt := 194) (hz_dec kX11_told 25 rfl) (by decide) (by decide) rfl (by decide) ?_
          refine hz_aloadn (pc := 194) 0 (hz_dec kX11_told 73 rfl) rfl ?_
          refine hz_get (pc := 195) (hz_dec kX11_told 74 rfl) fo_X11_327 hn (by omega) (by omega) rfl ?_
          exact hz_iret (pc := 198) (hz_dec kX11_told 75 rfl) rfl (hcP.no hR _)
        · skip
          exact absurd hq5 (by decide)
  · skip
    exact absurd hq2 (by decide)
set_option maxHeartbeats 4000000 in
set_option maxRecDepth 100000 in
theorem c_rtoldD9 {κ : hz_C} {z B : Nat} {M : hz_M} {H : ho_H} (hnn : (hoN H).length ≤ 6) (hT4 : (hoT H).length ≤ 4000) (hR : hmR M z B H) {v : Nat} (hv : v < (hoN H).length) {N : nd_N} (hN : ndL (hoN H) v = N) (hup : N.2.1 = false) : hz_Mt κ xX12_told 4 0 0 [.ref B, .int (nI v), .int (nI 9)] z M (hmP M z B (.int (N.2.2.1)) H) := by
  refine hz_ent (lo := [(0, .ref B), (1, .int (nI v)), (2, .int (nI 9))]) (by decide) (Nat.le_of_ble_eq_true rfl) rfl ?_
  obtain ⟨hk0_, hE0, ⟨m1, m2, m3⟩, hNd, a5, a6, a7, a8⟩ := id hR
  obtain ⟨⟨fs, hO, hF⟩, -, -, h8, hz⟩ := id hk0_
  obtain ⟨x1, x3, x4, x5, x6, x7, x8⟩ := id m3
  have eSt : stI (ndL (hoN H) v).2.1 = (-2) := by rw [hN, hup]; rfl
  refine hz_aloadn (pc := 0) 0 (hz_dec kX12_told 0 rfl) rfl ?_
  refine hz_iconst (pc := 1) (v := nI 0) (hz_dec kX12_told 1 rfl) (by decide) ?_
  refine hz_puti (pc := 2) (hz_dec kX12_told 2 rfl) fo_X12_302 ft_X12_0 hO h8 (by omega) (by rw [hF.1]; decide) ?_
  have hf1 : mfr B [0, 89] [] M (va_up M B (.inr (12, (List.set fs 0 (.int (nI 0)))))) := (mfr.rf ⟨fs, hO, hF⟩).upO (k := 0) hO hF rfl rfl
  have hR1 : hmR (va_up M B (.inr (12, (List.set fs 0 (.int (nI 0)))))) z B H := hR.m0 hf1 hE0.upO ((fdB_of (va_up_self _ _ _) 89).trans ((List.getElem?_set_ne (by decide)).trans ((fdB_of hO 89).symm.trans x8)))
  generalize (va_up M B (.inr (12, (List.set fs 0 (.int (nI 0)))))) = M1 at *
  obtain ⟨hk1, hE1, ⟨n1, d1, q1⟩, hNd1, a51, a61, a71, a81⟩ := id hR1
  obtain ⟨⟨fs1, hO1, hF1⟩, -, -, -, -⟩ := id hk1
  have h0 : mdN M1 B v N := by have q := hNd1 v hv; rw [hN] at q; exact q
  have hv6 : v < 6 := by omega
  refine hz_aloadn (pc := 5) 0 (hz_dec kX12_told 3 rfl) rfl ?_
  refine hz_iloadn (pc := 6) 1 (hz_dec kX12_told 4 rfl) rfl ?_
  refine hz_xV (pc := 7) (a := B) (As := [.int (nI v)]) (st := []) (hz_dec kX12_told 5 rfl) co_X12_692 im_X12_stateOf se_X12_stateOf rfl hO1 h8 (by omega) (c_st hnn hR1 hv) rfl (by decide) ⟨Nat.le_refl _, Nat.le_refl _⟩ (Nat.le_of_ble_eq_true rfl) rfl ?_
  refine hz_eqi (pc := 10) eSt ?_
  refine hz_istoren (pc := 10) (i := 3) (lo2 := [(3, .int (-2)), (0, .ref B), (1, .int (nI v)), (2, .int (nI 9))]) (hz_dec kX12_told 6 rfl) rfl (by decide) rfl ?_
  refine hz_iloadn (pc := 11) 0 (hz_dec kX12_told 7 rfl) rfl ?_
  refine hz_iconst (pc := 12) (v := (-1)) (hz_dec kX12_told 8 rfl) (by decide) ?_
  refine hz_icmp_eq (pc := 13) (tgt := 26) (hz_dec kX12_told 9 rfl) (by decide) (fun hq1 => ?_) (fun hq1 => ?_)
  · skip
    exact absurd hq1 (by decide)
  · skip
    refine hz_iloadn (pc := 16) 3 (hz_dec kX12_told 10 rfl) rfl ?_
    refine hz_z_lt (pc := 17) (tgt := 26) (hz_dec kX12_told 11 rfl) (by decide) (by omega) ?_
    refine hz_iloadn (pc := 20) 3 (hz_dec kX12_told 12 rfl) rfl ?_
    refine hz_bipush (pc := 21) (v := nI 10) (hz_dec kX12_told 13 rfl) (by decide) ?_
    refine hz_n_le (pc := 23) (tgt := 28) (hz_dec kX12_told 14 rfl) (by decide) (by omega) (by omega) (fun hq3 => ?_) (fun hq3 => ?_)
    · skip
      refine hz_iloadn (pc := 28) 0 (hz_dec kX12_told 17 rfl) rfl ?_
      refine hz_bipush (pc := 29) (v := (-2)) (hz_dec kX12_told 18 rfl) (by decide) ?_
      refine hz_icmp_ne (pc := 31) (tgt := 47) (hz_dec kX12_told 19 rfl) (by decide) (fun hq4 => ?_) (fun hq4 => ?_)
      · skip
        exact absurd hq4 (by decide)
      · skip
        refine hz_iloadn (pc := 34) 3 (hz_dec kX12_told 20 rfl) rfl ?_
        refine hz_z_le (pc := 35) (tgt := 47) (hz_dec kX12_told 21 rfl) (by decide) (by omega) (fun hq5 => ?_) (fun hq5 => ?_)
        · skip
          exact absurd hq5 (by decide)
        · skip
          refine hz_iloadn (pc := 38) 3 (hz_dec kX12_told 22 rfl) rfl ?_
          refine hz_bipush (pc := 39) (v := nI 9) (hz_dec kX12_told 23 rfl) (by decide) ?_
          refine hz_n_ge (pc := 41) (tgt := 47) (hz_dec kX12_told 24 rfl) (by decide) (by omega) (by omega) (fun hq6 => ?_) (fun hq6 => ?_)
          · skip
            refine hz_iloadn (pc := 47) 3 (hz_dec kX12_told 27 rfl) rfl ?_
            refine hz_swIn (pc := 48) (off := 153) (tgt := 201) (hz_dec kX12_told 28 rfl) (by decide) (by decide) rfl (by decide) ?_
            refine hz_aloadn (pc := 201) 1 (hz_dec kX12_told 91 rfl) rfl ?_
            refine hz_get (pc := 202) (v := .ref (B + 22)) (hz_dec kX12_told 92 rfl) fo_X12_77 hO1 h8 (by omega) (hF1.2 24 (by decide) (by decide)) ?_
            refine hz_iloadn (pc := 205) 2 (hz_dec kX12_told 93 rfl) rfl ?_
            refine hz_iald (pc := 206) (j := v) (hz_dec kX12_told 94 rfl) hE1.a22 (by omega) (by omega) rfl (by omega) (by decide) ?_
            refine hz_eqi (pc := 207) h0.2.2.1 ?_
            exact hz_iret (pc := 207) (hz_dec kX12_told 95 rfl) rfl ⟨rfl, rfl, hf1.S rfl, hR1⟩
          · skip
            exact absurd hq6 (by decide)
    · skip
      exact absurd hq3 (by decide)
set_option maxHeartbeats 4000000 in
set_option maxRecDepth 100000 in
theorem c_toldD10 {κ : hz_C} {z : Nat} {M : hz_M} {H : ho_H} (hz : 63 + 34 * (hoN H).length ≤ z) (hnn : (hoN H).length ≤ 6) (hT4 : (hoT H).length ≤ 4000) {ll : Nat} {fr kn : Int32} (hR : hcR M z H ll fr kn) {v : Nat} (hv : v < (hoN H).length) {N : nd_N} (hN : ndL (hoN H) v = N) (hup : N.2.1 = false) : hz_Mt κ xX11_told 4 0 0 [.ref 8, .int (nI v), .int (nI 10)] z M (hcP M z H (.int (N.2.2.2)) H) := by
  refine hz_ent (lo := [(0, .ref 8), (1, .int (nI v)), (2, .int (nI 10))]) (by decide) (Nat.le_of_ble_eq_true rfl) rfl ?_
  have hH := hR.1
  have hNs := hR.2.1
  obtain ⟨hO, hQ, hD⟩ := id hR.2.2.2.2.1
  obtain ⟨g53, h53⟩ := hR.2.2.2.2.2.1
  have hJ := hR.2.2.2.1
  obtain ⟨g56, h56, hT56⟩ := hR.2.2.2.2.2.2.2.2.2.1
  have hdf := hR.2.2.2.2.2.2.2.2.2.2
  have hck : ck_k M z := hJ.2.2.2.2.2.2.2.1
  have hcs : ck_s M := hJ.2.2.2.2.2.2.2.2.1
  have hz63 : 63 ≤ z := by omega
  have hK := hR.2.2.1 v hv
  rw [hN] at hK
  obtain ⟨hn, ⟨gd, hgd, hgD⟩, hT, hC, hP, hL⟩ := id hK
  have hn : M (63 + 34 * v) = ndO (63 + 34 * v) (nI v) (nI 0) (nI (ksN N.1)) (pvI (ksF N.1)) N.2.2.1 N.2.2.2 := by rw [hup] at hn; exact hn
  refine hz_aloadn (pc := 0) 0 (hz_dec kX11_told 0 rfl) rfl ?_
  refine hz_iloadn (pc := 1) 1 (hz_dec kX11_told 1 rfl) rfl ?_
  refine hz_xV (pc := 2) (a := 8) (As := [.int (nI v)]) (st := []) (hz_dec kX11_told 2 rfl) co_X11_162 im_X11_nodeOf se_X11_nodeOf rfl hH (by omega) (by omega) (c_nOf hz63 hH hnn hNs (b := v) hv) rfl (by decide) ⟨Nat.le_refl _, Nat.le_refl _⟩ (Nat.le_of_ble_eq_true rfl) rfl ?_
  refine hz_astoren (pc := 5) (i := 3) (lo2 := [(3, .ref (63 + 34 * v)), (0, .ref 8), (1, .int (nI v)), (2, .int (nI 10))]) (hz_dec kX11_told 3 rfl) rfl (by decide) rfl ?_
  refine hz_aloadn (pc := 6) 0 (hz_dec kX11_told 4 rfl) rfl ?_
  refine hz_ifnull (pc := 7) (hz_dec kX11_told 5 rfl) ?_
  refine hz_iloadn (pc := 10) 3 (hz_dec kX11_told 6 rfl) rfl ?_
  refine hz_z_lt (pc := 11) (tgt := 20) (hz_dec kX11_told 7 rfl) (by decide) (by omega) ?_
  refine hz_iloadn (pc := 14) 3 (hz_dec kX11_told 8 rfl) rfl ?_
  refine hz_bipush (pc := 15) (v := nI 10) (hz_dec kX11_told 9 rfl) (by decide) ?_
  refine hz_n_le (pc := 17) (tgt := 22) (hz_dec kX11_told 10 rfl) (by decide) (by omega) (by omega) (fun hq2 => ?_) (fun hq2 => ?_)
  · skip
    refine hz_aloadn (pc := 22) 0 (hz_dec kX11_told 13 rfl) rfl ?_
    refine hz_get (pc := 23) (hz_dec kX11_told 14 rfl) fo_X11_166 hn (by omega) (by omega) rfl ?_
    refine hz_z_ne (pc := 26) (tgt := 43) (hz_dec kX11_told 15 rfl) (by decide) (by omega) (fun hq3 => ?_) (fun hq3 => ?_)
    · skip
      exact absurd hq3 (by decide)
    · skip
      refine hz_iloadn (pc := 29) 3 (hz_dec kX11_told 16 rfl) rfl ?_
      refine hz_iconst (pc := 30) (v := nI 1) (hz_dec kX11_told 17 rfl) (by decide) ?_
      refine hz_n_lt (pc := 31) (tgt := 43) (hz_dec kX11_told 18 rfl) (by decide) (by omega) (by omega) (fun hq4 => ?_) (fun hq4 => ?_)
      · skip
        exact absurd hq4 (by decide)
      · skip
        refine hz_iloadn (pc := 34) 3 (hz_dec kX11_told 19 rfl) rfl ?_
        refine hz_bipush (pc := 35) (v := nI 8) (hz_dec kX11_told 20 rfl) (by decide) ?_
        refine hz_n_gt (pc := 37) (tgt := 43) (hz_dec kX11_told 21 rfl) (by decide) (by omega) (by omega) (fun hq5 => ?_) (fun hq5 => ?_)
        · skip
          refine hz_iloadn (pc := 43) 3 (hz_dec kX11_told 24 rfl) rfl ?_
          refine hz_swOut (pc := 44) (tgt := 199) (hz_dec kX11_told 25 rfl) (Or.inr (by decide)) (by decide) ?_
          refine hz_aloadn (pc := 199) 0 (hz_dec kX11_told 76 rfl) rfl ?_
          refine hz_get (pc := 200) (hz_dec kX11_told 77 rfl) fo_X11_336 hn (by omega) (by omega) rfl ?_
          exact hz_iret (pc := 203) (hz_dec kX11_told 78 rfl) rfl (hcP.no hR _)
        · skip
          exact absurd hq5 (by decide)
  · skip
    exact absurd hq2 (by decide)
set_option maxHeartbeats 4000000 in
set_option maxRecDepth 100000 in
theorem c_rtoldD10 {κ : hz_C} {z B : Nat} {M : hz_M} {H : ho_H} (hnn : (hoN H).length ≤ 6) (hT4 : (hoT H).length ≤ 4000) (hR : hmR M z B H) {v : Nat} (hv : v < (hoN H).length) {N : nd_N} (hN : ndL (hoN H) v = N) (hup : N.2.1 = false) : hz_Mt κ xX12_told 4 0 0 [.ref B, .int (nI v), .int (nI 10)] z M (hmP M z B (.int (N.2.2.2)) H) := by
  refine hz_ent (lo := [(0, .ref B), (1, .int (nI v)), (2, .int (nI 10))]) (by decide) (Nat.le_of_ble_eq_true rfl) rfl ?_
  obtain ⟨hk0_, hE0, ⟨m1, m2, m3⟩, hNd, a5, a6, a7, a8⟩ := id hR
  obtain ⟨⟨fs, hO, hF⟩, -, -, h8, hz⟩ := id hk0_
  obtain ⟨x1, x3, x4, x5, x6, x7, x8⟩ := id m3
  have eSt : stI (ndL (hoN H) v).2.1 = (-2) := by rw [hN, hup]; rfl
  refine hz_aloadn (pc := 0) 0 (hz_dec kX12_told 0 rfl) rfl ?_
  refine hz_iconst (pc := 1) (v := nI 0) (hz_dec kX12_told 1 rfl) (by decide) ?_
  refine hz_puti (pc := 2) (hz_dec kX12_told 2 rfl) fo_X12_302 ft_X12_0 hO h8 (by omega) (by rw [hF.1]; decide) ?_
  have hf1 : mfr B [0, 89] [] M (va_up M B (.inr (12, (List.set fs 0 (.int (nI 0)))))) := (mfr.rf ⟨fs, hO, hF⟩).upO (k := 0) hO hF rfl rfl
  have hR1 : hmR (va_up M B (.inr (12, (List.set fs 0 (.int (nI 0)))))) z B H := hR.m0 hf1 hE0.upO ((fdB_of (va_up_self _ _ _) 89).trans ((List.getElem?_set_ne (by decide)).trans ((fdB_of hO 89).symm.trans x8)))
  generalize (va_up M B (.inr (12, (List.set fs 0 (.int (nI 0)))))) = M1 at *
  obtain ⟨hk1, hE1, ⟨n1, d1, q1⟩, hNd1, a51, a61, a71, a81⟩ := id hR1
  obtain ⟨⟨fs1, hO1, hF1⟩, -, -, -, -⟩ := id hk1
  have h0 : mdN M1 B v N := by have q := hNd1 v hv; rw [hN] at q; exact q
  have hv6 : v < 6 := by omega
  refine hz_aloadn (pc := 5) 0 (hz_dec kX12_told 3 rfl) rfl ?_
  refine hz_iloadn (pc := 6) 1 (hz_dec kX12_told 4 rfl) rfl ?_
  refine hz_xV (pc := 7) (a := B) (As := [.int (nI v)]) (st := []) (hz_dec kX12_told 5 rfl) co_X12_692 im_X12_stateOf se_X12_stateOf rfl hO1 h8 (by omega) (c_st hnn hR1 hv) rfl (by decide) ⟨Nat.le_refl _, Nat.le_refl _⟩ (Nat.le_of_ble_eq_true rfl) rfl ?_
  refine hz_eqi (pc := 10) eSt ?_
  refine hz_istoren (pc := 10) (i := 3) (lo2 := [(3, .int (-2)), (0, .ref B), (1, .int (nI v)), (2, .int (nI 10))]) (hz_dec kX12_told 6 rfl) rfl (by decide) rfl ?_
  refine hz_iloadn (pc := 11) 0 (hz_dec kX12_told 7 rfl) rfl ?_
  refine hz_iconst (pc := 12) (v := (-1)) (hz_dec kX12_told 8 rfl) (by decide) ?_
  refine hz_icmp_eq (pc := 13) (tgt := 26) (hz_dec kX12_told 9 rfl) (by decide) (fun hq1 => ?_) (fun hq1 => ?_)
  · skip
    exact absurd hq1 (by decide)
  · skip
    refine hz_iloadn (pc := 16) 3 (hz_dec kX12_told 10 rfl) rfl ?_
    refine hz_z_lt (pc := 17) (tgt := 26) (hz_dec kX12_told 11 rfl) (by decide) (by omega) ?_
    refine hz_iloadn (pc := 20) 3 (hz_dec kX12_told 12 rfl) rfl ?_
    refine hz_bipush (pc := 21) (v := nI 10) (hz_dec kX12_told 13 rfl) (by decide) ?_
    refine hz_n_le (pc := 23) (tgt := 28) (hz_dec kX12_told 14 rfl) (by decide) (by omega) (by omega) (fun hq3 => ?_) (fun hq3 => ?_)
    · skip
      refine hz_iloadn (pc := 28) 0 (hz_dec kX12_told 17 rfl) rfl ?_
      refine hz_bipush (pc := 29) (v := (-2)) (hz_dec kX12_told 18 rfl) (by decide) ?_
      refine hz_icmp_ne (pc := 31) (tgt := 47) (hz_dec kX12_told 19 rfl) (by decide) (fun hq4 => ?_) (fun hq4 => ?_)
      · skip
        exact absurd hq4 (by decide)
      · skip
        refine hz_iloadn (pc := 34) 3 (hz_dec kX12_told 20 rfl) rfl ?_
        refine hz_z_le (pc := 35) (tgt := 47) (hz_dec kX12_told 21 rfl) (by decide) (by omega) (fun hq5 => ?_) (fun hq5 => ?_)
        · skip
          exact absurd hq5 (by decide)
        · skip
          refine hz_iloadn (pc := 38) 3 (hz_dec kX12_told 22 rfl) rfl ?_
          refine hz_bipush (pc := 39) (v := nI 9) (hz_dec kX12_told 23 rfl) (by decide) ?_
          refine hz_n_ge (pc := 41) (tgt := 47) (hz_dec kX12_told 24 rfl) (by decide) (by omega) (by omega) (fun hq6 => ?_) (fun hq6 => ?_)
          · skip
            refine hz_iloadn (pc := 47) 3 (hz_dec kX12_told 27 rfl) rfl ?_
            refine hz_swOut (pc := 48) (tgt := 208) (hz_dec kX12_told 28 rfl) (Or.inr (by decide)) (by decide) ?_
            refine hz_aloadn (pc := 208) 1 (hz_dec kX12_told 96 rfl) rfl ?_
            refine hz_get (pc := 209) (v := .ref (B + 23)) (hz_dec kX12_told 97 rfl) fo_X12_80 hO1 h8 (by omega) (hF1.2 25 (by decide) (by decide)) ?_
            refine hz_iloadn (pc := 212) 2 (hz_dec kX12_told 98 rfl) rfl ?_
            refine hz_iald (pc := 213) (j := v) (hz_dec kX12_told 99 rfl) hE1.a23 (by omega) (by omega) rfl (by omega) (by decide) ?_
            refine hz_eqi (pc := 214) h0.2.2.2 ?_
            exact hz_iret (pc := 214) (hz_dec kX12_told 100 rfl) rfl ⟨rfl, rfl, hf1.S rfl, hR1⟩
          · skip
            exact absurd hq6 (by decide)
    · skip
      exact absurd hq3 (by decide)
