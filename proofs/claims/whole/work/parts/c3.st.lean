/-! stateOf -/
def stI (u : Bool) : Int32 := if u = true then nI 0 else -2
set_option maxHeartbeats 4000000 in
set_option maxRecDepth 100000 in
theorem c_st {κ : hz_C} {z B : Nat} {M : hz_M} {H : ho_H} (hnn : (hoN H).length ≤ 6) (hR : hmR M z B H) {v : Nat} (hv : v < (hoN H).length) : hz_Mt κ xX12_stateOf 0 0 0 [.ref B, .int (nI v)] z M (hz_ex (some (.int (stI (ndL (hoN H) v).2.1))) z M) := by
  refine hz_ent (lo := [(0, .ref B), (1, .int (nI v))]) (by decide) (Nat.le_of_ble_eq_true rfl) rfl ?_
  obtain ⟨hk0, hE, ⟨m1, m2, m3⟩, hNd, a5, a6, a7, a8⟩ := id hR
  obtain ⟨⟨fs, hO, hF⟩, -, -, h8, hz⟩ := id hk0
  have g1 : fs[1]? = some (.int (nI (hoN H).length)) := (fdB_of hO 1).symm.trans m1
  have hN := (hNd v hv).1.1
  refine hz_iloadn (pc := 0) 1 (hz_dec kX12_stateOf 0 rfl) rfl ?_
  refine hz_z_lt (pc := 1) (tgt := 12) (hz_dec kX12_stateOf 1 rfl) (by decide) (by omega) ?_
  refine hz_iloadn (pc := 4) 1 (hz_dec kX12_stateOf 2 rfl) rfl ?_
  refine hz_aloadn (pc := 5) 0 (hz_dec kX12_stateOf 3 rfl) rfl ?_
  refine hz_get (pc := 6) (v := .int (nI ((hoN H).length))) (hz_dec kX12_stateOf 4 rfl) fo_X12_289 hO h8 (by omega) g1 ?_
  refine hz_n_lt (pc := 9) (tgt := 16) (hz_dec kX12_stateOf 5 rfl) (by decide) (by omega) (by omega) (fun h2 => ?_) (fun h2 => ?_)
  · skip
    refine hz_aloadn (pc := 16) 0 (hz_dec kX12_stateOf 8 rfl) rfl ?_
    refine hz_get (pc := 17) (v := .ref (B + 16)) (hz_dec kX12_stateOf 9 rfl) fo_X12_57 hO h8 (by omega) (hF.2 18 (by decide) (by decide)) ?_
    refine hz_iloadn (pc := 20) 1 (hz_dec kX12_stateOf 10 rfl) rfl ?_
    refine hz_zald (pc := 21) (j := v) (hz_dec kX12_stateOf 11 rfl) hE.a16 (by omega) (by omega) rfl (by omega) (by decide) ?_
    refine hz_eqi (pc := 22) hN ?_
    refine hz_if_eq (pc := 22) (tgt := 29) (hz_dec kX12_stateOf 12 rfl) (by decide) (fun h3 => ?_) (fun h3 => ?_)
    · skip
      have hu := hz_b0 h3
      refine hz_bipush (pc := 29) (v := (-2)) (hz_dec kX12_stateOf 15 rfl) (by decide) ?_
      exact hz_iret (pc := 31) (hz_dec kX12_stateOf 16 rfl) rfl ⟨by rw [hu]; rfl, rfl, rfl⟩
    · skip
      have hu := hz_b1 h3
      refine hz_iconst (pc := 25) (v := nI 0) (hz_dec kX12_stateOf 13 rfl) (by decide) ?_
      refine hz_goto (pc := 26) (tgt := 31) (hz_dec kX12_stateOf 14 rfl) (by decide) ?_
      exact hz_iret (pc := 31) (hz_dec kX12_stateOf 16 rfl) rfl ⟨by rw [hu]; rfl, rfl, rfl⟩
  · skip
    exact absurd h2 (by omega)
set_option maxHeartbeats 4000000 in
set_option maxRecDepth 100000 in
theorem c_stN {κ : hz_C} {z B : Nat} {M : hz_M} {H : ho_H} (hnn : (hoN H).length ≤ 6) (hR : hmR M z B H) {v : Int32} (hv : v < 0 ∨ ¬ v < nI (hoN H).length) : hz_Mt κ xX12_stateOf 0 0 0 [.ref B, .int v] z M (hz_ex (some (.int (-1))) z M) := by
  refine hz_ent (lo := [(0, .ref B), (1, .int v)]) (by decide) (Nat.le_of_ble_eq_true rfl) rfl ?_
  obtain ⟨hk0, hE, ⟨m1, m2, m3⟩, hNd, a5, a6, a7, a8⟩ := id hR
  obtain ⟨⟨fs, hO, hF⟩, -, -, h8, hz⟩ := id hk0
  have g1 : fs[1]? = some (.int (nI (hoN H).length)) := (fdB_of hO 1).symm.trans m1
  refine hz_iloadn (pc := 0) 1 (hz_dec kX12_stateOf 0 rfl) rfl ?_
  refine hz_if_lt (pc := 1) (tgt := 12) (hz_dec kX12_stateOf 1 rfl) (by decide) (fun h1 => ?_) (fun h1 => ?_)
  · skip
    refine hz_iconst (pc := 12) (v := (-1)) (hz_dec kX12_stateOf 6 rfl) (by decide) ?_
    refine hz_goto (pc := 13) (tgt := 31) (hz_dec kX12_stateOf 7 rfl) (by decide) ?_
    exact hz_iret (pc := 31) (hz_dec kX12_stateOf 16 rfl) rfl ⟨rfl, rfl, rfl⟩
  · skip
    refine hz_iloadn (pc := 4) 1 (hz_dec kX12_stateOf 2 rfl) rfl ?_
    refine hz_aloadn (pc := 5) 0 (hz_dec kX12_stateOf 3 rfl) rfl ?_
    refine hz_get (pc := 6) (v := .int (nI ((hoN H).length))) (hz_dec kX12_stateOf 4 rfl) fo_X12_289 hO h8 (by omega) g1 ?_
    refine hz_icmp_lt (pc := 9) (tgt := 16) (hz_dec kX12_stateOf 5 rfl) (by decide) (fun h2 => ?_) (fun h2 => ?_)
    · skip
      exact absurd h2 (hv.resolve_left h1)
    · skip
      refine hz_iconst (pc := 12) (v := (-1)) (hz_dec kX12_stateOf 6 rfl) (by decide) ?_
      refine hz_goto (pc := 13) (tgt := 31) (hz_dec kX12_stateOf 7 rfl) (by decide) ?_
      exact hz_iret (pc := 31) (hz_dec kX12_stateOf 16 rfl) rfl ⟨rfl, rfl, rfl⟩
