/-! the reference: judgeForPool -/
def poX (fa : Nat → Nat → Int32) (fl : Nat → Nat → Int64) (v : Nat) (po : List po_P) : Prop := fa 58 v = nI po.length ∧ ∀ k, k < po.length → fa 55 (16 * v + k) = nI (poL po k).length ∧ fl 56 (16 * v + k) = idS (poL po k) ∧ fl 57 (16 * v + k) = poV po k ∧ isA (fa 54) (360 * (16 * v + k)) (poL po k)
theorem poX.mf {M M2 : hz_M} {B v : Nat} {po : List po_P} {ks os : List Nat} (h : poX (fA M B) (fL M B) v po) (f : mfr B ks os M M2) (ho : [54, 55, 56, 57, 58].all (fun o => !os.elem o) = true) : poX (fA M2 B) (fL M2 B) v po := by
  have q : ∀ o ∈ [54, 55, 56, 57, 58], os.elem o = false := fun o hq => by simpa using List.all_eq_true.mp ho o hq
  unfold poX
  rw [fA_c (f.at 54 (by decide) (q 54 (by decide))), fA_c (f.at 55 (by decide) (q 55 (by decide))), fA_c (f.at 58 (by decide) (q 58 (by decide))), fL_c (f.at 56 (by decide) (q 56 (by decide))), fL_c (f.at 57 (by decide) (q 57 (by decide)))]
  exact h
set_option maxHeartbeats 4000000 in
set_option maxRecDepth 100000 in
theorem c_jfp_j {κ : hz_C} {z : Nat} {M : hz_M} {B : Nat} (hO_ : md_O M B) (hE : mdE M B) (h8 : 8 ≤ B) (hz : B + 88 ≤ z) {v : Nat} (hv : v < 6) {po : List po_P} (hp : poX (fA M B) (fL M B) v po) (hpw : poW po) {r n at_ : Nat} {f : Nat → Int32} {t : by_L} (hB : M r = .inl (1, n, .inl f)) (hr8 : 8 ≤ r) (hrz : r < z) (hn : n < 2 ^ 24) (ht : isA f at_ t) (hat : at_ + t.length ≤ n) (hW : txW t) {k0 : Nat} (hk0 : k0 < po.length) {i : Nat} (hi : i < txI (poL po k0)) {P : hz_P} (hP : clX po t = true → P (some (.int (nI 16))) z M) (K : (∀ j, j < txI t → smB (lf (poL po k0)) (lf t) (2 + 73 * i) (2 + 73 * j) 9 = false) → hz_W κ xX12_judgeForPool 8 0 0 P 0 0 228 [(8, .int (nI i)), (7, .int (nI (360 * (16 * v + k0)))), (6, .int (nI k0)), (0, .ref B), (1, .int (nI v)), (2, .ref r), (3, .int (nI at_))] [] z M) : ∀ k j, k = txI t - j → j ≤ txI t → (∀ q, q < j → smB (lf (poL po k0)) (lf t) (2 + 73 * i) (2 + 73 * q) 9 = false) → hz_W κ xX12_judgeForPool 8 0 0 P 0 0 178 [(9, .int (nI j)), (8, .int (nI i)), (7, .int (nI (360 * (16 * v + k0)))), (6, .int (nI k0)), (0, .ref B), (1, .int (nI v)), (2, .ref r), (3, .int (nI at_))] [] z M := by
  intro k
  induction k using Nat.strongRecOn with
  | ind k ih =>
  intro j hk hj hno
  obtain ⟨fs, hO, hF⟩ := id hO_
  obtain ⟨w1, w2, w3, w4, w5⟩ := txW_sz hW
  have hoa : 73 * txI t ≤ tx_oa (txI t) := by unfold tx_oa; split <;> omega
  have hpl := hpw.1
  refine hz_bytes hB hr8 hrz (fun hby => ?_)
  have hfi : f at_ = nI (txI t) := mb_bb (hby _ (by omega)) (by rw [show at_ = at_ + 0 from rfl, ht 0 (by omega)]; rfl) (by omega)
  obtain ⟨pw, pi⟩ := hpw.2 k0 hk0
  obtain ⟨p1, p2, p3, p4, p5⟩ := txW_sz pw
  have poa : 73 * txI (poL po k0) ≤ tx_oa (txI (poL po k0)) := by unfold tx_oa; split <;> omega
  have plen := txW_len pw
  have hPA : isA (fA M B 54) (360 * (16 * v + k0)) (poL po k0) := (hp.2 k0 hk0).2.2.2
  refine hz_bytes hE.a54 (by omega) (by omega) (fun hby54 => ?_)
  have hpi : fA M B 54 (360 * (16 * v + k0)) = nI (txI (poL po k0)) := mb_bb (hby54 _ (by omega)) (by have q := hPA 0 (by omega); rw [Nat.add_zero] at q; rw [q]; rfl) (by omega)
  refine hz_iload (pc := 178) 0 (hz_dec kX12_judgeForPool 101 rfl) rfl ?_
  refine hz_aloadn (pc := 180) 6 (hz_dec kX12_judgeForPool 102 rfl) rfl ?_
  refine hz_iloadn (pc := 181) 7 (hz_dec kX12_judgeForPool 103 rfl) rfl ?_
  refine hz_xS (pc := 182) (As := [.ref r, .int (nI at_)]) (st := [.int (nI j)]) (hz_dec kX12_judgeForPool 104 rfl) co_X12_482 sc_X12_inputsOf (c_minputsOf hB hr8 hrz (by omega) (by omega)) rfl (by decide) ⟨Nat.le_refl _, Nat.le_refl _⟩ (Nat.le_of_ble_eq_true rfl) rfl ?_
  refine hz_eqi (pc := 185) hfi ?_
  refine hz_n_ge (pc := 185) (tgt := 228) (hz_dec kX12_judgeForPool 105 rfl) (by decide) (by omega) (by omega) (fun h1 => ?_) (fun h1 => ?_)
  · skip
    have e : j = txI t := by omega
    refine hz_pick (pc := 228) [1, 2, 3, 4, 5, 6, 7] rfl ?_
    exact K (fun q hq => hno q (by omega))
  · skip
    refine hz_aloadn (pc := 188) 4 (hz_dec kX12_judgeForPool 106 rfl) rfl ?_
    refine hz_get (pc := 189) (v := .ref (B + 54)) (hz_dec kX12_judgeForPool 107 rfl) fo_X12_181 hO h8 (by omega) (hF.2 63 (by decide) (by decide)) ?_
    refine hz_aloadn (pc := 192) 4 (hz_dec kX12_judgeForPool 108 rfl) rfl ?_
    refine hz_get (pc := 193) (v := .ref (B + 54)) (hz_dec kX12_judgeForPool 109 rfl) fo_X12_181 hO h8 (by omega) (hF.2 63 (by decide) (by decide)) ?_
    refine hz_iload (pc := 196) 2 (hz_dec kX12_judgeForPool 110 rfl) rfl ?_
    refine hz_iload (pc := 198) 1 (hz_dec kX12_judgeForPool 111 rfl) rfl ?_
    refine hz_xS (pc := 200) (As := [.ref (B + 54), .int (nI (360 * (16 * v + k0))), .int (nI i)]) (st := [.ref (B + 54)]) (hz_dec kX12_judgeForPool 112 rfl) co_X12_485 sc_X12_inputAt (c_minputAt) rfl (by decide) ⟨Nat.le_refl _, Nat.le_refl _⟩ (Nat.le_of_ble_eq_true rfl) rfl ?_
    refine hz_aloadn (pc := 203) 6 (hz_dec kX12_judgeForPool 113 rfl) rfl ?_
    refine hz_aloadn (pc := 204) 6 (hz_dec kX12_judgeForPool 114 rfl) rfl ?_
    refine hz_iloadn (pc := 205) 7 (hz_dec kX12_judgeForPool 115 rfl) rfl ?_
    refine hz_iload (pc := 206) 0 (hz_dec kX12_judgeForPool 116 rfl) rfl ?_
    refine hz_xS (pc := 208) (As := [.ref r, .int (nI at_), .int (nI j)]) (st := [.ref r, .int (nI (360 * (16 * v + k0) + 2 + 73 * i)), .ref (B + 54)]) (hz_dec kX12_judgeForPool 117 rfl) co_X12_485 sc_X12_inputAt (c_minputAt) rfl (by decide) ⟨Nat.le_refl _, Nat.le_refl _⟩ (Nat.le_of_ble_eq_true rfl) rfl ?_
    refine hz_bipush (pc := 211) (v := nI 9) (hz_dec kX12_judgeForPool 118 rfl) (by decide) ?_
    refine hz_xS (pc := 213) (As := [.ref (B + 54), .int (nI (360 * (16 * v + k0) + 2 + 73 * i)), .ref r, .int (nI (at_ + 2 + 73 * j)), .int (nI 9)]) (st := []) (hz_dec kX12_judgeForPool 119 rfl) co_X12_456 sc_X12_sameBytes (c_sameB hE.a54 (by omega) (by omega) (by decide) hB hr8 hrz (by omega) (by omega) (by omega)) rfl (by decide) ⟨Nat.le_refl _, Nat.le_refl _⟩ (Nat.le_of_ble_eq_true rfl) rfl ?_
    refine hz_eqi (pc := 216) (show _ = hz_b (smB (lf (poL po k0)) (lf t) (2 + 73 * i) (2 + 73 * j) 9) by rw [smB_c (f2 := lf (poL po k0)) (g2 := lf t) (a2 := 2 + 73 * i) (b2 := 2 + 73 * j) (fun q hq => by rw [show 360 * (16 * v + k0) + 2 + 73 * i + q = 360 * (16 * v + k0) + (2 + 73 * i + q) by omega, hPA _ (by omega)]) (fun q hq => by rw [show at_ + 2 + 73 * j + q = at_ + (2 + 73 * j + q) by omega, ht _ (by omega)])]) ?_
    refine hz_if_eq (pc := 216) (tgt := 222) (hz_dec kX12_judgeForPool 120 rfl) (by decide) (fun h2 => ?_) (fun h2 => ?_)
    · skip
      refine hz_incN (pc := 222) (i := 9) (lo2 := [(9, .int (nI (j + 1))), (8, .int (nI i)), (7, .int (nI (360 * (16 * v + k0)))), (6, .int (nI k0)), (0, .ref B), (1, .int (nI v)), (2, .ref r), (3, .int (nI at_))]) 0 (hz_dec kX12_judgeForPool 123 rfl) rfl (by decide) rfl ?_
      refine hz_goto (pc := 225) (tgt := 178) (hz_dec kX12_judgeForPool 124 rfl) (by decide) ?_
      refine hz_pick (pc := 178) [0, 1, 2, 3, 4, 5, 6, 7] rfl ?_
      refine ih (txI t - (j + 1)) (by omega) (j + 1) rfl (by omega) (fun q hq => ?_)
      rcases (show q = j ∨ q < j by omega) with e | c
      · rw [e]; exact hz_b0 h2
      · exact hno q c
    · skip
      refine hz_bipush (pc := 219) (v := nI 16) (hz_dec kX12_judgeForPool 121 rfl) (by decide) ?_
      exact hz_iret (pc := 221) (hz_dec kX12_judgeForPool 122 rfl) rfl (hP (clX_t hk0 (clB_iff.mpr ⟨i, j, hi, h1, hz_b1 h2⟩)))
set_option maxHeartbeats 4000000 in
set_option maxRecDepth 100000 in
theorem c_jfp_i {κ : hz_C} {z : Nat} {M : hz_M} {B : Nat} (hO_ : md_O M B) (hE : mdE M B) (h8 : 8 ≤ B) (hz : B + 88 ≤ z) {v : Nat} (hv : v < 6) {po : List po_P} (hp : poX (fA M B) (fL M B) v po) (hpw : poW po) {r n at_ : Nat} {f : Nat → Int32} {t : by_L} (hB : M r = .inl (1, n, .inl f)) (hr8 : 8 ≤ r) (hrz : r < z) (hn : n < 2 ^ 24) (ht : isA f at_ t) (hat : at_ + t.length ≤ n) (hW : txW t) {k0 : Nat} (hk0 : k0 < po.length) {P : hz_P} (hP : clX po t = true → P (some (.int (nI 16))) z M) (K : clB (poL po k0) t = false → hz_W κ xX12_judgeForPool 8 0 0 P 0 0 234 [(6, .int (nI k0)), (0, .ref B), (1, .int (nI v)), (2, .ref r), (3, .int (nI at_))] [] z M) : ∀ k i, k = txI (poL po k0) - i → i ≤ txI (poL po k0) → (∀ q, q < i → ∀ j, j < txI t → smB (lf (poL po k0)) (lf t) (2 + 73 * q) (2 + 73 * j) 9 = false) → hz_W κ xX12_judgeForPool 8 0 0 P 0 0 161 [(8, .int (nI i)), (7, .int (nI (360 * (16 * v + k0)))), (6, .int (nI k0)), (0, .ref B), (1, .int (nI v)), (2, .ref r), (3, .int (nI at_))] [] z M := by
  intro k
  induction k using Nat.strongRecOn with
  | ind k ih =>
  intro i hk hi hno
  obtain ⟨fs, hO, hF⟩ := id hO_
  obtain ⟨w1, w2, w3, w4, w5⟩ := txW_sz hW
  have hoa : 73 * txI t ≤ tx_oa (txI t) := by unfold tx_oa; split <;> omega
  have hpl := hpw.1
  refine hz_bytes hB hr8 hrz (fun hby => ?_)
  have hfi : f at_ = nI (txI t) := mb_bb (hby _ (by omega)) (by rw [show at_ = at_ + 0 from rfl, ht 0 (by omega)]; rfl) (by omega)
  obtain ⟨pw, pi⟩ := hpw.2 k0 hk0
  obtain ⟨p1, p2, p3, p4, p5⟩ := txW_sz pw
  have poa : 73 * txI (poL po k0) ≤ tx_oa (txI (poL po k0)) := by unfold tx_oa; split <;> omega
  have plen := txW_len pw
  have hPA : isA (fA M B 54) (360 * (16 * v + k0)) (poL po k0) := (hp.2 k0 hk0).2.2.2
  refine hz_bytes hE.a54 (by omega) (by omega) (fun hby54 => ?_)
  have hpi : fA M B 54 (360 * (16 * v + k0)) = nI (txI (poL po k0)) := mb_bb (hby54 _ (by omega)) (by have q := hPA 0 (by omega); rw [Nat.add_zero] at q; rw [q]; rfl) (by omega)
  refine hz_iload (pc := 161) 0 (hz_dec kX12_judgeForPool 93 rfl) rfl ?_
  refine hz_aloadn (pc := 163) 3 (hz_dec kX12_judgeForPool 94 rfl) rfl ?_
  refine hz_get (pc := 164) (v := .ref (B + 54)) (hz_dec kX12_judgeForPool 95 rfl) fo_X12_181 hO h8 (by omega) (hF.2 63 (by decide) (by decide)) ?_
  refine hz_iload (pc := 167) 1 (hz_dec kX12_judgeForPool 96 rfl) rfl ?_
  refine hz_xS (pc := 169) (As := [.ref (B + 54), .int (nI (360 * (16 * v + k0)))]) (st := [.int (nI i)]) (hz_dec kX12_judgeForPool 97 rfl) co_X12_482 sc_X12_inputsOf (c_minputsOf hE.a54 (by omega) (by omega) (by decide) (by omega)) rfl (by decide) ⟨Nat.le_refl _, Nat.le_refl _⟩ (Nat.le_of_ble_eq_true rfl) rfl ?_
  refine hz_eqi (pc := 172) hpi ?_
  refine hz_n_ge (pc := 172) (tgt := 234) (hz_dec kX12_judgeForPool 98 rfl) (by decide) (by omega) (by omega) (fun h1 => ?_) (fun h1 => ?_)
  · skip
    have e : i = txI (poL po k0) := by omega
    refine hz_pick (pc := 234) [2, 3, 4, 5, 6] rfl ?_
    refine K ?_
    cases e9 : clB (poL po k0) t with
    | false => rfl
    | true =>
      obtain ⟨a, b, ha, hb, h2⟩ := clB_iff.mp e9
      rw [hno a (by omega) b hb] at h2
      cases h2
  · skip
    refine hz_iconst (pc := 175) (v := nI 0) (hz_dec kX12_judgeForPool 99 rfl) (by decide) ?_
    refine hz_istore (pc := 176) (i := 9) (lo2 := [(9, .int (nI 0)), (8, .int (nI i)), (7, .int (nI (360 * (16 * v + k0)))), (6, .int (nI k0)), (0, .ref B), (1, .int (nI v)), (2, .ref r), (3, .int (nI at_))]) (hz_dec kX12_judgeForPool 100 rfl) (by decide) rfl ?_
    refine hz_pick (pc := 178) [0, 1, 2, 3, 4, 5, 6, 7] rfl ?_
    refine c_jfp_j hO_ hE h8 hz hv hp hpw hB hr8 hrz hn ht hat hW hk0 h1 hP (fun hno2 => ?_) (txI t) 0 rfl (by omega) (fun q hq => absurd hq (by omega))
    refine hz_incN (pc := 228) (i := 8) (lo2 := [(8, .int (nI (i + 1))), (7, .int (nI (360 * (16 * v + k0)))), (6, .int (nI k0)), (0, .ref B), (1, .int (nI v)), (2, .ref r), (3, .int (nI at_))]) 0 (hz_dec kX12_judgeForPool 125 rfl) rfl (by decide) rfl ?_
    refine hz_goto (pc := 231) (tgt := 161) (hz_dec kX12_judgeForPool 126 rfl) (by decide) ?_
    refine hz_pick (pc := 161) [0, 1, 2, 3, 4, 5, 6] rfl ?_
    refine ih (txI (poL po k0) - (i + 1)) (by omega) (i + 1) rfl (by omega) (fun q hq => ?_)
    rcases (show q = i ∨ q < i by omega) with e | c
    · rw [e]; exact hno2
    · exact hno q c
set_option maxHeartbeats 4000000 in
set_option maxRecDepth 100000 in
theorem c_jfp_k {κ : hz_C} {z : Nat} {M : hz_M} {B : Nat} (hO_ : md_O M B) (hE : mdE M B) (h8 : 8 ≤ B) (hz : B + 88 ≤ z) {v : Nat} (hv : v < 6) {po : List po_P} (hp : poX (fA M B) (fL M B) v po) (hpw : poW po) {r n at_ : Nat} {f : Nat → Int32} {t : by_L} (hB : M r = .inl (1, n, .inl f)) (hr8 : 8 ≤ r) (hrz : r < z) (hn : n < 2 ^ 24) (ht : isA f at_ t) (hat : at_ + t.length ≤ n) (hW : txW t) {P : hz_P} (hP : clX po t = true → P (some (.int (nI 16))) z M) (K : clX po t = false → hz_W κ xX12_judgeForPool 8 0 0 P 0 0 240 [(0, .ref B), (1, .int (nI v)), (2, .ref r), (3, .int (nI at_))] [] z M) : ∀ k k0, k = po.length - k0 → k0 ≤ po.length → (∀ q, q < k0 → clB (poL po q) t = false) → hz_W κ xX12_judgeForPool 8 0 0 P 0 0 134 [(6, .int (nI k0)), (0, .ref B), (1, .int (nI v)), (2, .ref r), (3, .int (nI at_))] [] z M := by
  intro k
  induction k using Nat.strongRecOn with
  | ind k ih =>
  intro k0 hk hk0 hno
  obtain ⟨fs, hO, hF⟩ := id hO_
  obtain ⟨w1, w2, w3, w4, w5⟩ := txW_sz hW
  have hoa : 73 * txI t ≤ tx_oa (txI t) := by unfold tx_oa; split <;> omega
  have hpl := hpw.1
  refine hz_bytes hB hr8 hrz (fun hby => ?_)
  have hfi : f at_ = nI (txI t) := mb_bb (hby _ (by omega)) (by rw [show at_ = at_ + 0 from rfl, ht 0 (by omega)]; rfl) (by omega)
  refine hz_iload (pc := 134) 0 (hz_dec kX12_judgeForPool 77 rfl) rfl ?_
  refine hz_aloadn (pc := 136) 1 (hz_dec kX12_judgeForPool 78 rfl) rfl ?_
  refine hz_get (pc := 137) (v := .ref (B + 58)) (hz_dec kX12_judgeForPool 79 rfl) fo_X12_193 hO h8 (by omega) (hF.2 67 (by decide) (by decide)) ?_
  refine hz_iloadn (pc := 140) 2 (hz_dec kX12_judgeForPool 80 rfl) rfl ?_
  refine hz_iald (pc := 141) (j := v) (hz_dec kX12_judgeForPool 81 rfl) hE.a58 (by omega) (by omega) rfl (by omega) (by decide) ?_
  refine hz_eqi (pc := 142) hp.1 ?_
  refine hz_n_ge (pc := 142) (tgt := 240) (hz_dec kX12_judgeForPool 82 rfl) (by decide) (by omega) (by omega) (fun h1 => ?_) (fun h1 => ?_)
  · skip
    have e : k0 = po.length := by omega
    refine hz_pick (pc := 240) [1, 2, 3, 4] rfl ?_
    exact K (clX_f (fun q hq => hno q (by omega)))
  · skip
    refine hz_sipush (pc := 145) (v := nI 360) (hz_dec kX12_judgeForPool 83 rfl) (by decide) ?_
    refine hz_bipush (pc := 148) (v := nI 16) (hz_dec kX12_judgeForPool 84 rfl) (by decide) ?_
    refine hz_iloadn (pc := 150) 2 (hz_dec kX12_judgeForPool 85 rfl) rfl ?_
    refine hz_mulN (pc := 151) (hz_dec kX12_judgeForPool 86 rfl) ?_
    refine hz_iload (pc := 152) 0 (hz_dec kX12_judgeForPool 87 rfl) rfl ?_
    refine hz_addN (pc := 154) (hz_dec kX12_judgeForPool 88 rfl) ?_
    refine hz_mulN (pc := 155) (hz_dec kX12_judgeForPool 89 rfl) ?_
    refine hz_istore (pc := 156) (i := 7) (lo2 := [(7, .int (nI (360 * ((16 * v) + k0)))), (6, .int (nI k0)), (0, .ref B), (1, .int (nI v)), (2, .ref r), (3, .int (nI at_))]) (hz_dec kX12_judgeForPool 90 rfl) (by decide) rfl ?_
    refine hz_iconst (pc := 158) (v := nI 0) (hz_dec kX12_judgeForPool 91 rfl) (by decide) ?_
    refine hz_istore (pc := 159) (i := 8) (lo2 := [(8, .int (nI 0)), (7, .int (nI (360 * ((16 * v) + k0)))), (6, .int (nI k0)), (0, .ref B), (1, .int (nI v)), (2, .ref r), (3, .int (nI at_))]) (hz_dec kX12_judgeForPool 92 rfl) (by decide) rfl ?_
    refine hz_pick (pc := 161) [0, 1, 2, 3, 4, 5, 6] rfl ?_
    refine c_jfp_i hO_ hE h8 hz hv hp hpw hB hr8 hrz hn ht hat hW h1 hP (fun hc => ?_) (txI (poL po k0)) 0 rfl (by omega) (fun q hq => absurd hq (by omega))
    refine hz_incN (pc := 234) (i := 6) (lo2 := [(6, .int (nI (k0 + 1))), (0, .ref B), (1, .int (nI v)), (2, .ref r), (3, .int (nI at_))]) 0 (hz_dec kX12_judgeForPool 127 rfl) rfl (by decide) rfl ?_
    refine hz_goto (pc := 237) (tgt := 134) (hz_dec kX12_judgeForPool 128 rfl) (by decide) ?_
    refine hz_pick (pc := 134) [0, 1, 2, 3, 4] rfl ?_
    refine ih (po.length - (k0 + 1)) (by omega) (k0 + 1) rfl (by omega) (fun q hq => ?_)
    rcases (show q = k0 ∨ q < k0 by omega) with e | c
    · rw [e]; exact hc
    · exact hno q c
