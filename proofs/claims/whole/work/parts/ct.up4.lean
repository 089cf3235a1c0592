/-! up: the reference reads the disk -/
theorem sb_self {a : Int32} (h : a.toInt8.toInt32 = a) : a = sb_b (bb a) := by
  have q := sb_of (a := a) (c := bb a) rfl
  rw [h, h] at q
  exact q
theorem seal_eq {D h : Nat → Int32} {a : Nat} (hD : ∀ j, j < 4 → (D (a + j)).toInt8.toInt32 = D (a + j)) : smB (sh_dg h) D 0 a 4 = decide (bn_int D a = h 0) := by
  unfold smB
  refine decide_eq_decide.mpr ⟨fun e => ?_, fun e j hj => ?_⟩
  · unfold bn_int
    rw [bn_4 (un_lt (h 0)) (fun j hj => by rw [← e j hj, bb_dg, Nat.zero_add, show j / 4 = 0 by omega, show j % 4 = j by omega]), nI_un]
  · rw [Nat.zero_add]
    have e1 : un (h 0) = bn_nat D a 4 := by
      rw [← e]
      unfold bn_int
      exact un_nI (Nat.lt_of_lt_of_le (bn_nat_lt D a 4) (by decide))
    have b1 : sh_dg h j = sb_b (bb (sh_dg h j)) := sb_self (by unfold sh_dg; rw [Int8.toInt8_toInt32])
    rw [b1, sb_self (hD j hj), bb_dg, show j / 4 = 0 by omega, show j % 4 = j by omega, e1]
    congr 1
    have c0 := bb_lt (D a)
    have c1 := bb_lt (D (a + 1))
    have c2 := bb_lt (D (a + 2))
    have c3 := bb_lt (D (a + 3))
    simp only [bn_nat]
    rcases (show j = 0 ∨ j = 1 ∨ j = 2 ∨ j = 3 by omega) with c | c | c | c <;> rw [c] <;> simp only [Nat.reduceMul, Nat.reduceSub, Nat.reducePow, Nat.add_zero] <;> omega
theorem rd_two {f : Nat → Int32} {a : Nat} : (nI (bb (f a)) <<< (nI 8 &&& 31)) ||| nI (bb (f (a + 1))) = nI (bn_nat f a 2) := by
  have h1 := bb_lt (f (a + 1))
  rw [shl_nI _ (by decide), or_nI (k := 8) (by decide) (by omega)]
  simp only [bn_nat, Nat.add_zero, Nat.zero_mul, Nat.zero_add]
set_option maxHeartbeats 4000000 in
set_option maxRecDepth 100000 in
theorem c_rr_1 {κ : hz_C} {z B : Nat} {M0 : hz_M} {H : ho_H} (hnn : (hoN H).length ≤ 6) (hR : hmR M0 z B H) {v : Nat} (hv : v < (hoN H).length) {N : nd_N} (hN : ndL (hoN H) v = N) (hup : N.2.1 = true) (hI : ksI N.1) (hb4 : rdN N.1 ≤ 3994) (hb5 : ksN N.1 + rdN N.1 + 6 ≤ 12288) {P : hz_P} (K : ∀ M, mfr B [] [68] M0 M → mdE M B → rcI (fA M B 68) (rdL N.1) (ksN N.1) (rdN N.1) → hz_W κ xX12_readRecord 10 0 0 P 0 0 137 [(4, .int (nI (rdN N.1))), (3, .int (nI (12288 * v + ksN N.1))), (2, .int (nI (ksN N.1))), (0, .ref B), (1, .int (nI v))] [] z M) : ∀ k i M, k = rdN N.1 - i → i ≤ rdN N.1 → mfr B [] [68] M0 M → mdE M B → rcI (fA M B 68) (rdL N.1) (ksN N.1) i → hz_W κ xX12_readRecord 10 0 0 P 0 0 104 [(5, .int (nI i)), (4, .int (nI (rdN N.1))), (3, .int (nI (12288 * v + ksN N.1))), (2, .int (nI (ksN N.1))), (0, .ref B), (1, .int (nI v))] [] z M := by
  intro k
  induction k using Nat.strongRecOn with
  | ind k ih =>
  intro i M hk hi hfr hE hrc
  obtain ⟨hk0, hE0, -, hNd0, -⟩ := id hR
  obtain ⟨-, -, -, h8, hz⟩ := id hk0
  have hv6 : v < 6 := by omega
  have h0 : mdN M0 B v N := by have q := hNd0 v hv; rw [hN] at q; exact q
  have h01 : mnS M0 B v 1 N.1 (pvI (ksF N.1)) (ksP N.1) := by have q := h0.1; rw [hup] at q; exact q
  obtain ⟨p1, p2, p3, p4, ⟨p5a, p5b, p5c⟩, p6, p7, p9⟩ := id h01
  have hnx : ksN N.1 ≤ 12288 := hI.1.2.2.2.1
  have hll : (rdL N.1).length = rdN N.1 := rdL_len N.1
  obtain ⟨fs, hO, hF⟩ := id hfr.2.1
  refine hz_bytes hE.a17 (by omega) (by omega) (fun hby => ?_)
  refine hz_iload (pc := 104) 0 (hz_dec kX12_readRecord 66 rfl) rfl ?_
  refine hz_iload (pc := 106) 1 (hz_dec kX12_readRecord 67 rfl) rfl ?_
  refine hz_n_ge (pc := 108) (tgt := 137) (hz_dec kX12_readRecord 68 rfl) (by decide) (by omega) (by omega) (fun h1 => ?_) (fun h1 => ?_)
  · skip
    have e : i = rdN N.1 := by omega
    rw [e] at hrc
    refine hz_pick (pc := 137) [1, 2, 3, 4, 5] rfl ?_
    exact K M hfr hE hrc
  · skip
    refine hz_aloadn (pc := 111) 4 (hz_dec kX12_readRecord 69 rfl) rfl ?_
    refine hz_get (pc := 112) (v := .ref (B + 68)) (hz_dec kX12_readRecord 70 rfl) fo_X12_224 hO h8 (by omega) (hF.2 77 (by decide) (by decide)) ?_
    refine hz_iconst (pc := 115) (v := nI 2) (hz_dec kX12_readRecord 71 rfl) (by decide) ?_
    refine hz_iload (pc := 116) 0 (hz_dec kX12_readRecord 72 rfl) rfl ?_
    refine hz_addN (pc := 118) (hz_dec kX12_readRecord 73 rfl) ?_
    refine hz_aloadn (pc := 119) 4 (hz_dec kX12_readRecord 74 rfl) rfl ?_
    refine hz_get (pc := 120) (v := .ref (B + 17)) (hz_dec kX12_readRecord 75 rfl) fo_X12_62 hO h8 (by omega) (hF.2 19 (by decide) (by decide)) ?_
    refine hz_iloadn (pc := 123) 2 (hz_dec kX12_readRecord 76 rfl) rfl ?_
    refine hz_iconst (pc := 124) (v := nI 2) (hz_dec kX12_readRecord 77 rfl) (by decide) ?_
    refine hz_addN (pc := 125) (hz_dec kX12_readRecord 78 rfl) ?_
    refine hz_iload (pc := 126) 0 (hz_dec kX12_readRecord 79 rfl) rfl ?_
    refine hz_addN (pc := 128) (hz_dec kX12_readRecord 80 rfl) ?_
    refine hz_bald (pc := 129) (j := ((12288 * v + ksN N.1) + 2) + i) (hz_dec kX12_readRecord 81 rfl) hE.a17 (by omega) (by omega) rfl (by omega) (by decide) ?_
    refine hz_bast (pc := 130) (j := 2 + i) (hz_dec kX12_readRecord 82 rfl) hE.a68 (by omega) (by omega) rfl (by omega) (by decide) ?_
    refine hz_incN (pc := 131) (i := 5) (lo2 := [(5, .int (nI (i + 1))), (4, .int (nI (rdN N.1))), (3, .int (nI (12288 * v + ksN N.1))), (2, .int (nI (ksN N.1))), (0, .ref B), (1, .int (nI v))]) 0 (hz_dec kX12_readRecord 83 rfl) rfl (by decide) rfl ?_
    refine hz_goto (pc := 134) (tgt := 104) (hz_dec kX12_readRecord 84 rfl) (by decide) ?_
    refine hz_pick (pc := 104) [0, 1, 2, 3, 4, 5] rfl ?_
    refine ih (rdN N.1 - (i + 1)) (by omega) (i + 1) _ rfl (by omega) (hfr.upA (o := 68) rfl (by decide)) (hE.upA (by decide)) ?_
    rw [fA_of (va_up_self _ _ _)]
    refine ⟨(upd_o (by omega)).trans hrc.1, (upd_o (by omega)).trans hrc.2.1, fun j hj => ?_⟩
    rcases (show j = i ∨ j < i by omega) with e | c
    · rw [e, upd_s, hby _ (by omega), fA_m hfr (by decide) rfl, show 12288 * v + ksN N.1 + 2 + i = 12288 * v + (ksN N.1 + 2 + i) by omega, p2 _ (by omega)]; exact (lf_cutL h1).symm
    · rw [upd_o (by omega)]; exact hrc.2.2 j c
set_option maxHeartbeats 4000000 in
set_option maxRecDepth 100000 in
theorem c_rr_2 {κ : hz_C} {z B : Nat} {M0 : hz_M} {H : ho_H} (hnn : (hoN H).length ≤ 6) (hR : hmR M0 z B H) {v : Nat} (hv : v < (hoN H).length) {N : nd_N} (hN : ndL (hoN H) v = N) (hup : N.2.1 = true) (hI : ksI N.1) (hb4 : rdN N.1 ≤ 3994) (hb5 : ksN N.1 + rdN N.1 + 6 ≤ 12288) {P : hz_P} (K : ∀ M, mfr B [39] [3, 4, 5, 35, 68] M0 M → mdE M B → isA (fA M B 35) 0 (rdL N.1) → fdB M B 39 = some (.int (nI (rdN N.1))) → hz_W κ xX12_readRecord 10 0 0 P 0 0 212 [(4, .int (nI (rdN N.1))), (3, .int (nI (12288 * v + ksN N.1))), (2, .int (nI (ksN N.1))), (0, .ref B), (1, .int (nI v))] [] z M) : ∀ k i M, k = rdN N.1 - i → i ≤ rdN N.1 → mfr B [39] [3, 4, 5, 35, 68] M0 M → mdE M B → (∀ j, j < rdN N.1 → fA M B 68 (2 + j) = lf (rdL N.1) j) → fdB M B 39 = some (.int (nI (rdN N.1))) → (∀ j, j < i → fA M B 35 j = lf (rdL N.1) j) → hz_W κ xX12_readRecord 10 0 0 P 0 0 183 [(5, .int (nI i)), (4, .int (nI (rdN N.1))), (3, .int (nI (12288 * v + ksN N.1))), (2, .int (nI (ksN N.1))), (0, .ref B), (1, .int (nI v))] [] z M := by
  intro k
  induction k using Nat.strongRecOn with
  | ind k ih =>
  intro i M hk hi hfr hE h68 h39 h35
  obtain ⟨hk0, hE0, -, hNd0, -⟩ := id hR
  obtain ⟨-, -, -, h8, hz⟩ := id hk0
  have hv6 : v < 6 := by omega
  have h0 : mdN M0 B v N := by have q := hNd0 v hv; rw [hN] at q; exact q
  have h01 : mnS M0 B v 1 N.1 (pvI (ksF N.1)) (ksP N.1) := by have q := h0.1; rw [hup] at q; exact q
  obtain ⟨p1, p2, p3, p4, ⟨p5a, p5b, p5c⟩, p6, p7, p9⟩ := id h01
  have hnx : ksN N.1 ≤ 12288 := hI.1.2.2.2.1
  have hll : (rdL N.1).length = rdN N.1 := rdL_len N.1
  obtain ⟨fs, hO, hF⟩ := id hfr.2.1
  refine hz_bytes hE.a68 (by omega) (by omega) (fun hby => ?_)
  refine hz_iload (pc := 183) 0 (hz_dec kX12_readRecord 113 rfl) rfl ?_
  refine hz_iload (pc := 185) 1 (hz_dec kX12_readRecord 114 rfl) rfl ?_
  refine hz_n_ge (pc := 187) (tgt := 212) (hz_dec kX12_readRecord 115 rfl) (by decide) (by omega) (by omega) (fun h1 => ?_) (fun h1 => ?_)
  · skip
    have e : i = rdN N.1 := by omega
    rw [e] at h35
    refine hz_pick (pc := 212) [1, 2, 3, 4, 5] rfl ?_
    exact K M hfr hE (fun j hj => by rw [hll] at hj; rw [Nat.zero_add]; exact h35 j hj) h39
  · skip
    refine hz_aloadn (pc := 190) 4 (hz_dec kX12_readRecord 116 rfl) rfl ?_
    refine hz_get (pc := 191) (v := .ref (B + 35)) (hz_dec kX12_readRecord 117 rfl) fo_X12_116 hO h8 (by omega) (hF.2 38 (by decide) (by decide)) ?_
    refine hz_iload (pc := 194) 0 (hz_dec kX12_readRecord 118 rfl) rfl ?_
    refine hz_aloadn (pc := 196) 4 (hz_dec kX12_readRecord 119 rfl) rfl ?_
    refine hz_get (pc := 197) (v := .ref (B + 68)) (hz_dec kX12_readRecord 120 rfl) fo_X12_224 hO h8 (by omega) (hF.2 77 (by decide) (by decide)) ?_
    refine hz_iconst (pc := 200) (v := nI 2) (hz_dec kX12_readRecord 121 rfl) (by decide) ?_
    refine hz_iload (pc := 201) 0 (hz_dec kX12_readRecord 122 rfl) rfl ?_
    refine hz_addN (pc := 203) (hz_dec kX12_readRecord 123 rfl) ?_
    refine hz_bald (pc := 204) (j := 2 + i) (hz_dec kX12_readRecord 124 rfl) hE.a68 (by omega) (by omega) rfl (by omega) (by decide) ?_
    refine hz_bast (pc := 205) (j := i) (hz_dec kX12_readRecord 125 rfl) hE.a35 (by omega) (by omega) rfl (by omega) (by decide) ?_
    refine hz_incN (pc := 206) (i := 5) (lo2 := [(5, .int (nI (i + 1))), (4, .int (nI (rdN N.1))), (3, .int (nI (12288 * v + ksN N.1))), (2, .int (nI (ksN N.1))), (0, .ref B), (1, .int (nI v))]) 0 (hz_dec kX12_readRecord 126 rfl) rfl (by decide) rfl ?_
    refine hz_goto (pc := 209) (tgt := 183) (hz_dec kX12_readRecord 127 rfl) (by decide) ?_
    refine hz_pick (pc := 183) [0, 1, 2, 3, 4, 5] rfl ?_
    refine ih (rdN N.1 - (i + 1)) (by omega) (i + 1) _ rfl (by omega) (hfr.upA (o := 35) rfl (by decide)) (hE.upA (by decide)) (by rw [fA_c (va_up_ne _ _ (by omega))]; exact h68) (by rw [fdB_of (hz_mne hO (by omega)), ← fdB_of hO]; exact h39) ?_
    rw [fA_of (va_up_self _ _ _)]
    intro j hj
    rcases (show j = i ∨ j < i by omega) with e | c
    · rw [e, upd_s, hby _ (by omega)]; exact h68 i h1
    · rw [upd_o (by omega)]; exact h35 j c
set_option maxHeartbeats 4000000 in
set_option maxRecDepth 100000 in
theorem c_rr_4 {κ : hz_C} {z B : Nat} {M0 : hz_M} {H : ho_H} (hnn : (hoN H).length ≤ 6) (hR : hmR M0 z B H) {v : Nat} (hv : v < (hoN H).length) {N : nd_N} (hN : ndL (hoN H) v = N) (hup : N.2.1 = true) (hI : ksI N.1) (hb4 : rdN N.1 ≤ 3994) (hb5 : ksN N.1 + rdN N.1 + 6 ≤ 12288) {P : hz_P} {KS OS : List Nat} {M3 : hz_M} (hf3 : mfr B KS OS M0 M3) (h17 : OS.elem 17 = false) (K : ∀ M, mfr B [] [51] M3 M → mdE M B → agV M3 M B v → (∀ j, j < rdN N.1 + 6 → fA M B 51 (12288 * v + ksN N.1 + j) = ksD N.1 (ksN N.1 + j)) → (∀ x, x < 12288 * v + ksN N.1 ∨ 12288 * v + ksN N.1 + (rdN N.1 + 6) ≤ x → fA M B 51 x = fA M3 B 51 x) → hz_W κ xX12_readRecord 10 0 0 P 0 0 260 [(4, .int (nI (rdN N.1))), (3, .int (nI (12288 * v + ksN N.1))), (2, .int (nI (ksN N.1))), (0, .ref B), (1, .int (nI v))] [] z M) : ∀ k i M, k = rdN N.1 + 6 - i → i ≤ rdN N.1 + 6 → mfr B [] [51] M3 M → mdE M B → agV M3 M B v → (∀ j, j < i → fA M B 51 (12288 * v + ksN N.1 + j) = ksD N.1 (ksN N.1 + j)) → (∀ x, x < 12288 * v + ksN N.1 ∨ 12288 * v + ksN N.1 + (rdN N.1 + 6) ≤ x → fA M B 51 x = fA M3 B 51 x) → hz_W κ xX12_readRecord 10 0 0 P 0 0 226 [(5, .int (nI i)), (4, .int (nI (rdN N.1))), (3, .int (nI (12288 * v + ksN N.1))), (2, .int (nI (ksN N.1))), (0, .ref B), (1, .int (nI v))] [] z M := by
  intro k
  induction k using Nat.strongRecOn with
  | ind k ih =>
  intro i M hk hi hfr hE hag h51 h51o
  obtain ⟨hk0, hE0, -, hNd0, -⟩ := id hR
  obtain ⟨-, -, -, h8, hz⟩ := id hk0
  have hv6 : v < 6 := by omega
  have h0 : mdN M0 B v N := by have q := hNd0 v hv; rw [hN] at q; exact q
  have h01 : mnS M0 B v 1 N.1 (pvI (ksF N.1)) (ksP N.1) := by have q := h0.1; rw [hup] at q; exact q
  obtain ⟨p1, p2, p3, p4, ⟨p5a, p5b, p5c⟩, p6, p7, p9⟩ := id h01
  have hnx : ksN N.1 ≤ 12288 := hI.1.2.2.2.1
  have hll : (rdL N.1).length = rdN N.1 := rdL_len N.1
  obtain ⟨fs, hO, hF⟩ := id hfr.2.1
  refine hz_bytes hE.a17 (by omega) (by omega) (fun hby => ?_)
  refine hz_iload (pc := 226) 0 (hz_dec kX12_readRecord 137 rfl) rfl ?_
  refine hz_iload (pc := 228) 1 (hz_dec kX12_readRecord 138 rfl) rfl ?_
  refine hz_bipush (pc := 230) (v := nI 6) (hz_dec kX12_readRecord 139 rfl) (by decide) ?_
  refine hz_addN (pc := 232) (hz_dec kX12_readRecord 140 rfl) ?_
  refine hz_n_ge (pc := 233) (tgt := 260) (hz_dec kX12_readRecord 141 rfl) (by decide) (by omega) (by omega) (fun h1 => ?_) (fun h1 => ?_)
  · skip
    have e : i = rdN N.1 + 6 := by omega
    rw [e] at h51
    refine hz_pick (pc := 260) [1, 2, 3, 4, 5] rfl ?_
    exact K M hfr hE hag h51 h51o
  · skip
    refine hz_aloadn (pc := 236) 4 (hz_dec kX12_readRecord 142 rfl) rfl ?_
    refine hz_get (pc := 237) (v := .ref (B + 51)) (hz_dec kX12_readRecord 143 rfl) fo_X12_171 hO h8 (by omega) (hF.2 58 (by decide) (by decide)) ?_
    refine hz_iloadn (pc := 240) 2 (hz_dec kX12_readRecord 144 rfl) rfl ?_
    refine hz_iload (pc := 241) 0 (hz_dec kX12_readRecord 145 rfl) rfl ?_
    refine hz_addN (pc := 243) (hz_dec kX12_readRecord 146 rfl) ?_
    refine hz_aloadn (pc := 244) 4 (hz_dec kX12_readRecord 147 rfl) rfl ?_
    refine hz_get (pc := 245) (v := .ref (B + 17)) (hz_dec kX12_readRecord 148 rfl) fo_X12_62 hO h8 (by omega) (hF.2 19 (by decide) (by decide)) ?_
    refine hz_iloadn (pc := 248) 2 (hz_dec kX12_readRecord 149 rfl) rfl ?_
    refine hz_iload (pc := 249) 0 (hz_dec kX12_readRecord 150 rfl) rfl ?_
    refine hz_addN (pc := 251) (hz_dec kX12_readRecord 151 rfl) ?_
    refine hz_bald (pc := 252) (j := (12288 * v + ksN N.1) + i) (hz_dec kX12_readRecord 152 rfl) hE.a17 (by omega) (by omega) rfl (by omega) (by decide) ?_
    refine hz_bast (pc := 253) (j := (12288 * v + ksN N.1) + i) (hz_dec kX12_readRecord 153 rfl) hE.a51 (by omega) (by omega) rfl (by omega) (by decide) ?_
    refine hz_incN (pc := 254) (i := 5) (lo2 := [(5, .int (nI (i + 1))), (4, .int (nI (rdN N.1))), (3, .int (nI (12288 * v + ksN N.1))), (2, .int (nI (ksN N.1))), (0, .ref B), (1, .int (nI v))]) 0 (hz_dec kX12_readRecord 154 rfl) rfl (by decide) rfl ?_
    refine hz_goto (pc := 257) (tgt := 226) (hz_dec kX12_readRecord 155 rfl) (by decide) ?_
    refine hz_pick (pc := 226) [0, 1, 2, 3, 4, 5] rfl ?_
    refine ih (rdN N.1 + 6 - (i + 1)) (by omega) (i + 1) _ rfl (by omega) (hfr.upA (o := 51) rfl (by decide)) (hE.upA (by decide)) (hag.upA (o := 51) (s := 12288) (by decide) (by decide) (fun x hx => upd_o (by omega))) ?_ ?_
    · rw [fA_of (va_up_self _ _ _)]
      intro j hj
      rcases (show j = i ∨ j < i by omega) with e | c
      · rw [e, upd_s, hby _ (by omega), fA_m hfr (by decide) rfl, fA_m hf3 (by decide) h17, show 12288 * v + ksN N.1 + i = 12288 * v + (ksN N.1 + i) by omega]; exact p2 _ (by omega)
      · rw [upd_o (by omega)]; exact h51 j c
    · rw [fA_of (va_up_self _ _ _)]
      intro x hx
      rw [upd_o (by omega)]
      exact h51o x hx
set_option maxHeartbeats 4000000 in
set_option maxRecDepth 100000 in
theorem c_rr_d {κ : hz_C} {z B v : Nat} {N : nd_N} (h8 : 8 ≤ B) (hz : B + 88 ≤ z) {h : by_L} (hh : h.length = 32) {M0 : hz_M} (h530 : isA (fA M0 B 53) 0 h) {P : hz_P} (K : ∀ M, mfr B [] [5] M0 M → mdE M B → (∀ j, j < 32 → fA M B 5 j = lf h j) → hz_W κ xX12_readRecord 10 0 0 P 0 0 305 [(4, .int (nI (rdN N.1))), (3, .int (nI (12288 * v + ksN N.1))), (2, .int (nI (ksN N.1))), (0, .ref B), (1, .int (nI v))] [] z M) : ∀ k i M, k = 32 - i → i ≤ 32 → mfr B [] [5] M0 M → mdE M B → (∀ j, j < i → fA M B 5 j = lf h j) → hz_W κ xX12_readRecord 10 0 0 P 0 0 278 [(6, .int (nI i)), (4, .int (nI (rdN N.1))), (3, .int (nI (12288 * v + ksN N.1))), (2, .int (nI (ksN N.1))), (0, .ref B), (1, .int (nI v))] [] z M := by
  intro k
  induction k using Nat.strongRecOn with
  | ind k ih =>
  intro i M hk hi hfr hE h5
  obtain ⟨fs, hO, hF⟩ := id hfr.2.1
  have hA : isA (fA M B 53) 0 h := by rw [fA_m hfr (by decide) rfl]; exact h530
  refine hz_bytes hE.a53 (by omega) (by omega) (fun hby => ?_)
  refine hz_iload (pc := 278) 0 (hz_dec kX12_readRecord 166 rfl) rfl ?_
  refine hz_bipush (pc := 280) (v := nI 32) (hz_dec kX12_readRecord 167 rfl) (by decide) ?_
  refine hz_n_ge (pc := 282) (tgt := 305) (hz_dec kX12_readRecord 168 rfl) (by decide) (by omega) (by omega) (fun h1 => ?_) (fun h1 => ?_)
  · skip
    have e : i = 32 := by omega
    refine hz_pick (pc := 305) [1, 2, 3, 4, 5] rfl ?_
    exact K M hfr hE (fun j hj => h5 j (by omega))
  · skip
    refine hz_aloadn (pc := 285) 4 (hz_dec kX12_readRecord 169 rfl) rfl ?_
    refine hz_get (pc := 286) (v := .ref (B + 5)) (hz_dec kX12_readRecord 170 rfl) fo_X12_22 hO h8 (by omega) (hF.2 6 (by decide) (by decide)) ?_
    refine hz_iload (pc := 289) 0 (hz_dec kX12_readRecord 171 rfl) rfl ?_
    refine hz_aloadn (pc := 291) 4 (hz_dec kX12_readRecord 172 rfl) rfl ?_
    refine hz_get (pc := 292) (v := .ref (B + 53)) (hz_dec kX12_readRecord 173 rfl) fo_X12_177 hO h8 (by omega) (hF.2 62 (by decide) (by decide)) ?_
    refine hz_iload (pc := 295) 0 (hz_dec kX12_readRecord 174 rfl) rfl ?_
    refine hz_bald (pc := 297) (j := i) (hz_dec kX12_readRecord 175 rfl) hE.a53 (by omega) (by omega) rfl (by omega) (by decide) ?_
    refine hz_bast (pc := 298) (j := i) (hz_dec kX12_readRecord 176 rfl) hE.a5 (by omega) (by omega) rfl (by omega) (by decide) ?_
    refine hz_incN (pc := 299) (i := 6) (lo2 := [(6, .int (nI (i + 1))), (4, .int (nI (rdN N.1))), (3, .int (nI (12288 * v + ksN N.1))), (2, .int (nI (ksN N.1))), (0, .ref B), (1, .int (nI v))]) 0 (hz_dec kX12_readRecord 177 rfl) rfl (by decide) rfl ?_
    refine hz_goto (pc := 302) (tgt := 278) (hz_dec kX12_readRecord 178 rfl) (by decide) ?_
    refine hz_pick (pc := 278) [0, 1, 2, 3, 4, 5] rfl ?_
    refine ih (32 - (i + 1)) (by omega) (i + 1) _ rfl (by omega) (hfr.upA (o := 5) rfl (by decide)) (hE.upA (by decide)) ?_
    rw [fA_of (va_up_self _ _ _)]
    intro q hq
    rcases (show q = i ∨ q < i by omega) with e | c
    · rw [e, upd_s, hby _ (by omega)]; have r := hA i (by omega); rw [Nat.zero_add] at r; exact r
    · rw [upd_o (by omega)]; exact h5 q c
