/-! lose -/
def lsQ (H : ho_H) (k : Nat) : ho_H := hoq H ((hoQ H).1.eraseIdx k, (hoQ H).2)
set_option maxHeartbeats 4000000 in
set_option maxRecDepth 100000 in
theorem c_lose {κ : hz_C} {z : Nat} {M : hz_M} {H : ho_H} (hz : 63 + 34 * (hoN H).length ≤ z) (hnn : (hoN H).length ≤ 6) {ll : Nat} {fr kn : Int32} (hR : hcR M z H ll fr kn) {k0 : Nat} (hk0 : k0 < (hoQ H).1.length) : hz_Mt κ xX11_lose 3 0 0 [.ref 8, .int (nI k0)] z M (fun r z2 M3 => some (.int (nI ((hoQ H).1.length - 1))) = r ∧ z = z2 ∧ frS [(8, 63 + 34 * (hoN H).length)] M M3 ∧ hcR M3 z (lsQ H k0) ll fr kn) := by
  refine hz_ent (lo := [(0, .ref 8), (1, .int (nI k0))]) (by decide) (Nat.le_of_ble_eq_true rfl) rfl ?_
  have hH := hR.1
  obtain ⟨hO, hQ, hD⟩ := id hR.2.2.2.2.1
  have hrw := hQ.1.1
  rw [msB_len] at hrw
  obtain ⟨g53, h53⟩ := hR.2.2.2.2.2.1
  have hz63 : 63 ≤ z := by omega
  have hql : (hoQ H).1.length ≤ 200 := by have q := hQ.1.2.1; rw [msB_len] at q; exact q
  refine hz_iloadn (pc := 0) 1 (hz_dec kX11_lose 0 rfl) rfl ?_
  refine hz_z_lt (pc := 1) (tgt := 18) (hz_dec kX11_lose 1 rfl) (by decide) (by omega) ?_
  refine hz_iloadn (pc := 4) 1 (hz_dec kX11_lose 2 rfl) rfl ?_
  refine hz_aloadn (pc := 5) 0 (hz_dec kX11_lose 3 rfl) rfl ?_
  refine hz_get (pc := 6) (hz_dec kX11_lose 4 rfl) fo_X11_62 hH (by omega) (by omega) rfl ?_
  refine hz_get (pc := 9) (hz_dec kX11_lose 5 rfl) fo_X11_342 hO (by omega) (by omega) rfl ?_
  refine hz_get (pc := 12) (hz_dec kX11_lose 6 rfl) fo_X11_220 hrw (by omega) (by omega) rfl ?_
  refine hz_n_lt (pc := 15) (tgt := 20) (hz_dec kX11_lose 7 rfl) (by decide) (by omega) (by omega) (fun h2 => ?_) (fun h2 => ?_)
  · skip
    refine hz_aloadn (pc := 20) 0 (hz_dec kX11_lose 10 rfl) rfl ?_
    refine hz_get (pc := 21) (hz_dec kX11_lose 11 rfl) fo_X11_62 hH (by omega) (by omega) rfl ?_
    refine hz_iloadn (pc := 24) 1 (hz_dec kX11_lose 12 rfl) rfl ?_
    refine hz_callV (pc := 25) (a := 45) (As := [.int (nI k0)]) (st := []) (hz_dec kX11_lose 13 rfl) co_X11_361 im_X5_remove se_X5_remove rfl hO (by omega) (by omega) (c_mrem hz63 hO hnn hQ hk0) rfl (by decide) ⟨Nat.le_refl _, Nat.le_refl _⟩ (Nat.le_of_ble_eq_true rfl) rfl (fun r9 z9 M3 hp9 => ?_)
    obtain ⟨rfl, rfl, hf3, hQ3⟩ := hp9
    have hR3 : hcR M3 z (lsQ H k0) ll fr kn := hcR.q (s := ((hoQ H).1.eraseIdx k0, (hoQ H).2)) hR (hf3.mono (fun q (h9 : outS [(45, 54)] q) => ⟨by have r := h9.1; omega, trivial⟩)) ((hf3.at1 (by omega)).trans hO) hQ3 ⟨g53, (hf3.at1 (by omega)).trans h53⟩
    have hH3 := hR3.1
    have hO3 := hR3.2.2.2.2.1.1
    have hrw3 := hQ3.1.1
    rw [msB_len, ms_erl hk0] at hrw3
    refine hz_aloadn (pc := 28) 0 (hz_dec kX11_lose 14 rfl) rfl ?_
    refine hz_get (pc := 29) (hz_dec kX11_lose 15 rfl) fo_X11_62 hH3 (by omega) (by omega) rfl ?_
    refine hz_get (pc := 32) (hz_dec kX11_lose 16 rfl) fo_X11_342 hO3 (by omega) (by omega) rfl ?_
    refine hz_get (pc := 35) (hz_dec kX11_lose 17 rfl) fo_X11_220 hrw3 (by omega) (by omega) rfl ?_
    exact hz_iret (pc := 38) (hz_dec kX11_lose 18 rfl) rfl ⟨rfl, rfl, hf3.mono (fun q (h9 : outS [(8, 63 + 34 * (hoN H).length)] q) => ⟨by have r := h9.1; omega, trivial⟩), hR3⟩
  · skip
    exact absurd h2 (by omega)
set_option maxHeartbeats 4000000 in
set_option maxRecDepth 100000 in
theorem c_loseB {κ : hz_C} {z : Nat} {M : hz_M} {H : ho_H} (hz : 63 + 34 * (hoN H).length ≤ z) (hnn : (hoN H).length ≤ 6) {ll : Nat} {fr kn : Int32} (hR : hcR M z H ll fr kn) {k : Int32} (hk : k < 0 ∨ ¬ k < nI (hoQ H).1.length) : hz_Mt κ xX11_lose 3 0 0 [.ref 8, .int k] z M (hz_ex (some (.int (-1))) z M) := by
  refine hz_ent (lo := [(0, .ref 8), (1, .int k)]) (by decide) (Nat.le_of_ble_eq_true rfl) rfl ?_
  have hH := hR.1
  obtain ⟨hO, hQ, hD⟩ := id hR.2.2.2.2.1
  have hrw := hQ.1.1
  rw [msB_len] at hrw
  obtain ⟨g53, h53⟩ := hR.2.2.2.2.2.1
  have hz63 : 63 ≤ z := by omega
  have hql : (hoQ H).1.length ≤ 200 := by have q := hQ.1.2.1; rw [msB_len] at q; exact q
  refine hz_iloadn (pc := 0) 1 (hz_dec kX11_lose 0 rfl) rfl ?_
  refine hz_if_lt (pc := 1) (tgt := 18) (hz_dec kX11_lose 1 rfl) (by decide) (fun h1 => ?_) (fun h1 => ?_)
  · skip
    refine hz_iconst (pc := 18) (v := (-1)) (hz_dec kX11_lose 8 rfl) (by decide) ?_
    exact hz_iret (pc := 19) (hz_dec kX11_lose 9 rfl) rfl ⟨rfl, rfl, rfl⟩
  · skip
    refine hz_iloadn (pc := 4) 1 (hz_dec kX11_lose 2 rfl) rfl ?_
    refine hz_aloadn (pc := 5) 0 (hz_dec kX11_lose 3 rfl) rfl ?_
    refine hz_get (pc := 6) (hz_dec kX11_lose 4 rfl) fo_X11_62 hH (by omega) (by omega) rfl ?_
    refine hz_get (pc := 9) (hz_dec kX11_lose 5 rfl) fo_X11_342 hO (by omega) (by omega) rfl ?_
    refine hz_get (pc := 12) (hz_dec kX11_lose 6 rfl) fo_X11_220 hrw (by omega) (by omega) rfl ?_
    refine hz_icmp_lt (pc := 15) (tgt := 20) (hz_dec kX11_lose 7 rfl) (by decide) (fun h2 => ?_) (fun h2 => ?_)
    · skip
      exact absurd h2 (hk.resolve_left h1)
    · skip
      refine hz_iconst (pc := 18) (v := (-1)) (hz_dec kX11_lose 8 rfl) (by decide) ?_
      exact hz_iret (pc := 19) (hz_dec kX11_lose 9 rfl) rfl ⟨rfl, rfl, rfl⟩
set_option maxHeartbeats 4000000 in
set_option maxRecDepth 100000 in
theorem c_rlose {κ : hz_C} {z B : Nat} {M : hz_M} {H : ho_H} (hnn : (hoN H).length ≤ 6) (hR : hmR M z B H) {k0 : Nat} (hk0 : k0 < (hoQ H).1.length) : hz_Mt κ xX12_lose 1 0 0 [.ref B, .int (nI k0)] z M (fun r z2 M3 => some (.int (nI ((hoQ H).1.length - 1))) = r ∧ z = z2 ∧ frM B M M3 ∧ hmR M3 z B (lsQ H k0)) := by
  refine hz_ent (lo := [(0, .ref B), (1, .int (nI k0))]) (by decide) (Nat.le_of_ble_eq_true rfl) rfl ?_
  obtain ⟨hk0_, hE0, ⟨m1, m2, m3⟩, hNd, a5, a6, a7, a8⟩ := id hR
  obtain ⟨⟨fs, hO, hF⟩, -, -, h8, hz⟩ := id hk0_
  obtain ⟨x1, x3, x4, x5, x6, x7, x8⟩ := id m3
  refine hz_aloadn (pc := 0) 0 (hz_dec kX12_lose 0 rfl) rfl ?_
  refine hz_iconst (pc := 1) (v := nI 0) (hz_dec kX12_lose 1 rfl) (by decide) ?_
  refine hz_puti (pc := 2) (hz_dec kX12_lose 2 rfl) fo_X12_302 ft_X12_0 hO h8 (by omega) (by rw [hF.1]; decide) ?_
  have hf1 : mfr B [0, 89] [] M (va_up M B (.inr (12, (List.set fs 0 (.int (nI 0)))))) := (mfr.rf ⟨fs, hO, hF⟩).upO (k := 0) hO hF rfl rfl
  have hR1 : hmR (va_up M B (.inr (12, (List.set fs 0 (.int (nI 0)))))) z B H := hR.m0 hf1 hE0.upO ((fdB_of (va_up_self _ _ _) 89).trans ((List.getElem?_set_ne (by decide)).trans ((fdB_of hO 89).symm.trans x8)))
  generalize (va_up M B (.inr (12, (List.set fs 0 (.int (nI 0)))))) = M1 at *
  obtain ⟨hk1, hE1, ⟨n1, n2, n3⟩, -⟩ := id hR1
  obtain ⟨⟨fs1, hO1, hF1⟩, -, -, -, -⟩ := id hk1
  have g86 : fs1[86]? = some (.int (nI (hoQ H).1.length)) := (fdB_of hO1 86).symm.trans n3.2.2.2.1
  refine hz_iloadn (pc := 5) 1 (hz_dec kX12_lose 3 rfl) rfl ?_
  refine hz_z_lt (pc := 6) (tgt := 17) (hz_dec kX12_lose 4 rfl) (by decide) (by omega) ?_
  refine hz_iloadn (pc := 9) 1 (hz_dec kX12_lose 5 rfl) rfl ?_
  refine hz_aloadn (pc := 10) 0 (hz_dec kX12_lose 6 rfl) rfl ?_
  refine hz_get (pc := 11) (v := .int (nI ((hoQ H).1.length))) (hz_dec kX12_lose 7 rfl) fo_X12_610 hO1 h8 (by omega) g86 ?_
  refine hz_n_lt (pc := 14) (tgt := 19) (hz_dec kX12_lose 8 rfl) (by decide) (by omega) (by omega) (fun h2 => ?_) (fun h2 => ?_)
  · skip
    refine hz_aloadn (pc := 19) 0 (hz_dec kX12_lose 11 rfl) rfl ?_
    refine hz_iloadn (pc := 20) 1 (hz_dec kX12_lose 12 rfl) rfl ?_
    refine hz_callV (pc := 21) (a := B) (As := [.int (nI k0)]) (st := []) (hz_dec kX12_lose 13 rfl) co_X12_711 im_X12_dropMessage se_X12_dropMessage rfl hO1 h8 (by omega) (c_mdrop hk1.1 hE1 h8 hz n3 hk0) rfl (by decide) ⟨Nat.le_refl _, Nat.le_refl _⟩ (Nat.le_of_ble_eq_true rfl) rfl (fun r9 z9 M3 hp9 => ?_)
    obtain ⟨rfl, rfl, hf3, hE3, hQ3⟩ := hp9
    have hR3 : hmR M3 z B (lsQ H k0) := hmR.q (s := ((hoQ H).1.eraseIdx k0, (hoQ H).2)) hR1 (hf3.mono rfl rfl) hE3 ⟨(hf3.2.2 1 rfl).trans n1, by unfold mdD; rw [fA_m hf3 (by decide) rfl]; exact n2, hQ3⟩
    obtain ⟨fs3, hO3, hF3⟩ := id hf3.2.1
    have g863 : fs3[86]? = some (.int (nI ((hoQ H).1.length - 1))) := by have q := (fdB_of hO3 86).symm.trans hQ3.2.2.2.1; rw [ms_erl hk0] at q; exact q
    refine hz_aloadn (pc := 24) 0 (hz_dec kX12_lose 14 rfl) rfl ?_
    refine hz_get (pc := 25) (v := .int (nI ((hoQ H).1.length - 1))) (hz_dec kX12_lose 15 rfl) fo_X12_610 hO3 h8 (by omega) g863 ?_
    exact hz_iret (pc := 28) (hz_dec kX12_lose 16 rfl) rfl ⟨rfl, rfl, (hf1.S rfl).tr (hf3.S rfl), hR3⟩
  · skip
    exact absurd h2 (by omega)
set_option maxHeartbeats 4000000 in
set_option maxRecDepth 100000 in
theorem c_rloseB {κ : hz_C} {z B : Nat} {M : hz_M} {H : ho_H} (hnn : (hoN H).length ≤ 6) (hR : hmR M z B H) {k : Int32} (hk : k < 0 ∨ ¬ k < nI (hoQ H).1.length) : hz_Mt κ xX12_lose 1 0 0 [.ref B, .int k] z M (fun r z2 M3 => some (.int (-1)) = r ∧ z = z2 ∧ frM B M M3 ∧ hmR M3 z B H) := by
  refine hz_ent (lo := [(0, .ref B), (1, .int k)]) (by decide) (Nat.le_of_ble_eq_true rfl) rfl ?_
  obtain ⟨hk0_, hE0, ⟨m1, m2, m3⟩, hNd, a5, a6, a7, a8⟩ := id hR
  obtain ⟨⟨fs, hO, hF⟩, -, -, h8, hz⟩ := id hk0_
  obtain ⟨x1, x3, x4, x5, x6, x7, x8⟩ := id m3
  refine hz_aloadn (pc := 0) 0 (hz_dec kX12_lose 0 rfl) rfl ?_
  refine hz_iconst (pc := 1) (v := nI 0) (hz_dec kX12_lose 1 rfl) (by decide) ?_
  refine hz_puti (pc := 2) (hz_dec kX12_lose 2 rfl) fo_X12_302 ft_X12_0 hO h8 (by omega) (by rw [hF.1]; decide) ?_
  have hf1 : mfr B [0, 89] [] M (va_up M B (.inr (12, (List.set fs 0 (.int (nI 0)))))) := (mfr.rf ⟨fs, hO, hF⟩).upO (k := 0) hO hF rfl rfl
  have hR1 : hmR (va_up M B (.inr (12, (List.set fs 0 (.int (nI 0)))))) z B H := hR.m0 hf1 hE0.upO ((fdB_of (va_up_self _ _ _) 89).trans ((List.getElem?_set_ne (by decide)).trans ((fdB_of hO 89).symm.trans x8)))
  generalize (va_up M B (.inr (12, (List.set fs 0 (.int (nI 0)))))) = M1 at *
  obtain ⟨hk1, hE1, ⟨n1, n2, n3⟩, -⟩ := id hR1
  obtain ⟨⟨fs1, hO1, hF1⟩, -, -, -, -⟩ := id hk1
  have g86 : fs1[86]? = some (.int (nI (hoQ H).1.length)) := (fdB_of hO1 86).symm.trans n3.2.2.2.1
  refine hz_iloadn (pc := 5) 1 (hz_dec kX12_lose 3 rfl) rfl ?_
  refine hz_if_lt (pc := 6) (tgt := 17) (hz_dec kX12_lose 4 rfl) (by decide) (fun h1 => ?_) (fun h1 => ?_)
  · skip
    refine hz_iconst (pc := 17) (v := (-1)) (hz_dec kX12_lose 9 rfl) (by decide) ?_
    exact hz_iret (pc := 18) (hz_dec kX12_lose 10 rfl) rfl ⟨rfl, rfl, hf1.S rfl, hR1⟩
  · skip
    refine hz_iloadn (pc := 9) 1 (hz_dec kX12_lose 5 rfl) rfl ?_
    refine hz_aloadn (pc := 10) 0 (hz_dec kX12_lose 6 rfl) rfl ?_
    refine hz_get (pc := 11) (v := .int (nI ((hoQ H).1.length))) (hz_dec kX12_lose 7 rfl) fo_X12_610 hO1 h8 (by omega) g86 ?_
    refine hz_icmp_lt (pc := 14) (tgt := 19) (hz_dec kX12_lose 8 rfl) (by decide) (fun h2 => ?_) (fun h2 => ?_)
    · skip
      exact absurd h2 (hk.resolve_left h1)
    · skip
      refine hz_iconst (pc := 17) (v := (-1)) (hz_dec kX12_lose 9 rfl) (by decide) ?_
      exact hz_iret (pc := 18) (hz_dec kX12_lose 10 rfl) rfl ⟨rfl, rfl, hf1.S rfl, hR1⟩
theorem lsQ_X {H : ho_H} {k : Nat} (h : hoX H) : hoX (lsQ H k) := hoq_X h (fun m h9 => h.2.2 m (List.mem_of_mem_eraseIdx h9))
