/-! the reference: poolAnew -/
theorem onC_up {en : List en_E} (h : wfE en) {tip old : Nat} (ht : tip < en.length) (ho : old < en.length) {i : Nat} (hi : i < eH en old) (c : onC en tip (upE en old i) = true) : onC en tip (upE en old (i + 1)) = true := by
  obtain ⟨c1, c2⟩ := of_decide_eq_true c
  have q1 := h.up ho i (by omega)
  have q2 := h.up ho (i + 1) (by omega)
  refine decide_eq_true ⟨by omega, ?_⟩
  have e : eH en tip - eH en (upE en old (i + 1)) = (eH en tip - eH en (upE en old i)) + 1 := by omega
  unfold chE at c2 ⊢
  rw [e]
  show (eP en (upE en tip (eH en tip - eH en (upE en old i)))).getD 0 = (eP en (upE en old i)).getD 0
  rw [c2]
theorem onC_dn {en : List en_E} (h : wfE en) {tip old m : Nat} (ht : tip < en.length) (ho : old < en.length) (c : onC en tip (upE en old m) = true) : ∀ j, m + j ≤ eH en old → onC en tip (upE en old (m + j)) = true := by
  intro j
  induction j with
  | zero => intro _; exact c
  | succ j ih => intro hj; exact onC_up h ht ho (i := m + j) (by omega) (ih (by omega))
theorem pnB_on {bl : List bk_B} {en : List en_E} {tip old : Nat} {cs : List co_C} {h : Nat} {po : List po_P} : ∀ n, (∀ j, j < n → onC en tip (chE en old j) = true) → pnB bl en tip old cs h n po = po := by
  intro n
  induction n with
  | zero => intro _; rfl
  | succ n ih =>
    intro hc
    unfold pnB
    rw [if_pos (hc n (by omega)), ih (fun j hj => hc j (by omega))]
theorem onC_0 {en : List en_E} (h : wfE en) {tip : Nat} (ht : tip < en.length) : onC en tip 0 = true := by
  have q := onC_t h ht (i := eH en tip) (Nat.le_refl _)
  rw [(h.top ht).1] at q
  exact q
set_option maxHeartbeats 4000000 in
set_option maxRecDepth 100000 in
theorem c_pa4 {κ : hz_C} {z : Nat} {M0 : hz_M} {B : Nat} (hk0 : md_k B M0 z) (hE0 : mdE M0 B) {v tip : Nat} {bl : List bk_B} {en : List en_E} (hv : v < 6) (hb : blP bl en tip) (hmn0 : mnB M0 B v bl en tip) (hcv0 : cvX M0 B v bl en) {po0 : List po_P} (hpw0 : poW po0) {old : Nat} (hold : old < bl.length) {m i : Nat} (him : i < m) (hmo : m ≤ eH en old) {pB : List po_P} (hpB : poW pB) {P : hz_P} (K : ∀ M, mfr B [53, 54, 55, 59] [3, 4, 5, 6, 8, 9, 43, 44, 45, 46, 47, 48, 49, 50, 52, 54, 55, 56, 57, 58, 59, 60, 61, 62] M0 M → mdE M B → agV M0 M B v → cvK M0 M B v bl en → poX (fA M B) (fL M B) v (pnT (coAt bl en tip) (eH en tip + 1) (bBy bl (upE en old i)) (bkN (bBy bl (upE en old i))) pB) → (∀ q, q < m → fA M B 61 q = nI (upE en old q)) → hz_W κ xX12_poolAnew 10 0 0 P 0 0 296 [(5, .int (nI i)), (0, .ref B), (1, .int (nI v)), (2, .int (nI old))] [] z M) : ∀ k j M, k = bkN (bBy bl (upE en old i)) - j → j ≤ bkN (bBy bl (upE en old i)) → mfr B [53, 54, 55, 59] [3, 4, 5, 6, 8, 9, 43, 44, 45, 46, 47, 48, 49, 50, 52, 54, 55, 56, 57, 58, 59, 60, 61, 62] M0 M → mdE M B → agV M0 M B v → cvK M0 M B v bl en → poX (fA M B) (fL M B) v (pnT (coAt bl en tip) (eH en tip + 1) (bBy bl (upE en old i)) j pB) → (∀ q, q < m → fA M B 61 q = nI (upE en old q)) → hz_W κ xX12_poolAnew 10 0 0 P 0 0 220 [(8, .int (nI j)), (7, .int (nI (bkS (bBy bl (upE en old i)) j))), (6, .int (nI (128 * v + upE en old i))), (5, .int (nI i)), (0, .ref B), (1, .int (nI v)), (2, .int (nI old))] [] z M := by
  intro k
  induction k using Nat.strongRecOn with
  | ind k ih =>
  intro j M hk hj hfr hE hag hck hp h61
  obtain ⟨-, -, -, h8, hz⟩ := id hk0
  obtain ⟨fs, hO, hF⟩ := id hfr.2.1
  have hkM : md_k B M z := hk0.mf hfr rfl rfl
  have hmn : mnB M B v bl en tip := hmn0.mf hfr rfl
  have hcv : cvX M B v bl en := hck v bl en hv (fun _ => ⟨rfl, rfl⟩) hcv0
  obtain ⟨b1, b2, b3, b4, b5, b6, b7, b8⟩ := id hb
  have hoe := b3.ht (k := old) (by omega)
  have hu := b3.up (k := old) (by omega) i (by omega)
  have hW : blW (bBy bl (upE en old i)) := b4 _ (by omega)
  obtain ⟨hbf1, hbf2, hbf3, hbf4, hbf5, hbf6, hbf7⟩ := hW.f
  have hln9 := hW.len
  have hNx := hmn.2.1.2.2 (upE en old i) (by omega)
  have h61i := h61 i him
  refine hz_iload (pc := 220) 0 (hz_dec kX12_poolAnew 122 rfl) rfl ?_
  refine hz_aloadn (pc := 222) 4 (hz_dec kX12_poolAnew 123 rfl) rfl ?_
  refine hz_get (pc := 223) (v := .ref (B + 32)) (hz_dec kX12_poolAnew 124 rfl) fo_X12_107 hO h8 (by omega) (hF.2 34 (by decide) (by decide)) ?_
  refine hz_iload (pc := 226) 2 (hz_dec kX12_poolAnew 125 rfl) rfl ?_
  refine hz_iald (pc := 228) (j := 128 * v + upE en old i) (hz_dec kX12_poolAnew 126 rfl) hE.a32 (by omega) (by omega) rfl (by omega) (by decide) ?_
  refine hz_eqi (pc := 229) hNx.2.2.2.1 ?_
  refine hz_n_ge (pc := 229) (tgt := 296) (hz_dec kX12_poolAnew 127 rfl) (by decide) (by omega) (by omega) (fun h1 => ?_) (fun h1 => ?_)
  · skip
    have e : j = bkN (bBy bl (upE en old i)) := by omega
    refine hz_pick (pc := 296) [3, 4, 5, 6] rfl ?_
    exact K M hfr hE hag hck (by rw [← e]; exact hp) h61
  · skip
    obtain ⟨t1, t2, t3, t4, t5⟩ := hW.t h1
    have tl := txW_len t2
    refine hz_aloadn (pc := 232) 4 (hz_dec kX12_poolAnew 128 rfl) rfl ?_
    refine hz_iloadn (pc := 233) 5 (hz_dec kX12_poolAnew 129 rfl) rfl ?_
    refine hz_aloadn (pc := 234) 4 (hz_dec kX12_poolAnew 130 rfl) rfl ?_
    refine hz_get (pc := 235) (v := .ref (B + 61)) (hz_dec kX12_poolAnew 131 rfl) fo_X12_202 hO h8 (by omega) (hF.2 70 (by decide) (by decide)) ?_
    refine hz_iload (pc := 238) 3 (hz_dec kX12_poolAnew 132 rfl) rfl ?_
    refine hz_iald (pc := 240) (j := i) (hz_dec kX12_poolAnew 133 rfl) hE.a61 (by omega) (by omega) rfl (by omega) (by decide) ?_
    refine hz_eqi (pc := 241) h61i ?_
    refine hz_callV (pc := 241) (a := B) (As := [.int (nI v), .int (nI (upE en old i))]) (st := []) (hz_dec kX12_poolAnew 134 rfl) co_X12_575 im_X12_bringBack se_X12_bringBack rfl hO h8 (by omega) (c_brB hfr.2.1 hE h8 hz hv hb hmn (x := upE en old i) (by omega)) rfl (by decide) ⟨Nat.le_refl _, Nat.le_refl _⟩ (Nat.le_of_ble_eq_true rfl) rfl (fun r9 z9 M1 hp9 => ?_)
    obtain ⟨rfl, rfl, hfB, hEB, hA62⟩ := hp9
    have hfr1 : mfr B [53, 54, 55, 59] [3, 4, 5, 6, 8, 9, 43, 44, 45, 46, 47, 48, 49, 50, 52, 54, 55, 56, 57, 58, 59, 60, 61, 62] M0 M1 := hfr.tr (hfB.mono rfl rfl)
    have hag1 := hag.tr (agV.mf hfB rfl rfl)
    have hck1 := hck.tr (cvK.mf hfB rfl rfl rfl rfl)
    have hk1 : md_k B M1 z := hkM.mf hfB rfl rfl
    have hmn1 := hmn.mf hfB rfl
    have hcv1 : cvX M1 B v bl en := hck1 v bl en hv (fun _ => ⟨rfl, rfl⟩) hcv0
    have hp1 := hp.mf hfB rfl
    obtain ⟨fs1, hO1, hF1⟩ := id hfB.2.1
    have hNx1 := hmn1.2.1.2.2 (upE en old i) (by omega)
    have h611 : ∀ q, q < m → fA M1 B 61 q = nI (upE en old q) := by rw [fA_m hfB (by decide) rfl]; exact h61
    have tA := hW.A hA62 h1
    rw [Nat.zero_add] at tA
    refine hz_aloadn (pc := 244) 4 (hz_dec kX12_poolAnew 135 rfl) rfl ?_
    refine hz_get (pc := 245) (v := .ref (B + 62)) (hz_dec kX12_poolAnew 136 rfl) fo_X12_205 hO1 h8 (by omega) (hF1.2 71 (by decide) (by decide)) ?_
    refine hz_iload (pc := 248) 1 (hz_dec kX12_poolAnew 137 rfl) rfl ?_
    refine hz_aloadn (pc := 250) 4 (hz_dec kX12_poolAnew 138 rfl) rfl ?_
    refine hz_get (pc := 251) (v := .ref (B + 25)) (hz_dec kX12_poolAnew 139 rfl) fo_X12_86 hO1 h8 (by omega) (hF1.2 27 (by decide) (by decide)) ?_
    refine hz_iload (pc := 254) 2 (hz_dec kX12_poolAnew 140 rfl) rfl ?_
    refine hz_iald (pc := 256) (j := 128 * v + upE en old i) (hz_dec kX12_poolAnew 141 rfl) hEB.a25 (by omega) (by omega) rfl (by omega) (by decide) ?_
    refine hz_eqi (pc := 257) hNx1.1 ?_
    refine hz_iload (pc := 257) 1 (hz_dec kX12_poolAnew 142 rfl) rfl ?_
    refine hz_subN (pc := 259) (hz_dec kX12_poolAnew 143 rfl) (by omega) ?_
    refine hz_xS (pc := 260) (As := [.ref (B + 62), .int (nI (bkS (bBy bl (upE en old i)) j)), .int (nI (((bBy bl (upE en old i)).length) - (bkS (bBy bl (upE en old i)) j)))]) (st := []) (hz_dec kX12_poolAnew 144 rfl) co_X12_405 sc_X12_transactionSize (c_mts hEB.a62 (by omega) (by omega) (by decide) (by omega)) rfl (by decide) ⟨Nat.le_refl _, Nat.le_refl _⟩ (Nat.le_of_ble_eq_true rfl) rfl ?_
    refine hz_eqi (pc := 263) (show _ = nI (bkT (bBy bl (upE en old i)) j).length by unfold md_ts; rw [show bkS (bBy bl (upE en old i)) j + ((bBy bl (upE en old i)).length - bkS (bBy bl (upE en old i)) j) = 0 + (bBy bl (upE en old i)).length by omega, show bkS (bBy bl (upE en old i)) j = 0 + bkS (bBy bl (upE en old i)) j from (Nat.zero_add _).symm, tx_len_sh hA62 (by omega), t5, if_neg (fun q9 => t2.2 q9)]) ?_
    refine hz_istore (pc := 263) (i := 9) (lo2 := [(9, .int (nI ((bkT (bBy bl (upE en old i)) j).length))), (8, .int (nI j)), (7, .int (nI (bkS (bBy bl (upE en old i)) j))), (6, .int (nI (128 * v + upE en old i))), (5, .int (nI i)), (0, .ref B), (1, .int (nI v)), (2, .int (nI old))]) (hz_dec kX12_poolAnew 145 rfl) (by decide) rfl ?_
    refine hz_iload (pc := 265) 1 (hz_dec kX12_poolAnew 146 rfl) rfl ?_
    refine hz_z_le (pc := 267) (tgt := 283) (hz_dec kX12_poolAnew 147 rfl) (by decide) (by omega) (fun h2 => ?_) (fun h2 => ?_)
    · skip
      refine hz_iload (pc := 283) 2 (hz_dec kX12_poolAnew 155 rfl) rfl ?_
      refine hz_iload (pc := 285) 0 (hz_dec kX12_poolAnew 156 rfl) rfl ?_
      refine hz_addN (pc := 287) (hz_dec kX12_poolAnew 157 rfl) ?_
      refine hz_istore (pc := 288) (i := 7) (lo2 := [(7, .int (nI ((bkS (bBy bl (upE en old i)) j) + ((bkT (bBy bl (upE en old i)) j).length)))), (9, .int (nI ((bkT (bBy bl (upE en old i)) j).length))), (8, .int (nI j)), (6, .int (nI (128 * v + upE en old i))), (5, .int (nI i)), (0, .ref B), (1, .int (nI v)), (2, .int (nI old))]) (hz_dec kX12_poolAnew 158 rfl) (by decide) rfl ?_
      refine hz_incN (pc := 290) (i := 8) (lo2 := [(8, .int (nI (j + 1))), (7, .int (nI ((bkS (bBy bl (upE en old i)) j) + ((bkT (bBy bl (upE en old i)) j).length)))), (9, .int (nI ((bkT (bBy bl (upE en old i)) j).length))), (6, .int (nI (128 * v + upE en old i))), (5, .int (nI i)), (0, .ref B), (1, .int (nI v)), (2, .int (nI old))]) 2 (hz_dec kX12_poolAnew 159 rfl) rfl (by decide) rfl ?_
      refine hz_goto (pc := 293) (tgt := 220) (hz_dec kX12_poolAnew 160 rfl) (by decide) ?_
      have e9 : nI (bkS (bBy bl (upE en old i)) j + (bkT (bBy bl (upE en old i)) j).length) = nI (bkS (bBy bl (upE en old i)) (j + 1)) := by rw [t1]
      refine hz_pick (pc := 220) [0, 1, 3, 4, 5, 6, 7] rfl ?_
      rw [e9]
      refine ih (bkN (bBy bl (upE en old i)) - (j + 1)) (by omega) (j + 1) M1 rfl (by omega) hfr1 hEB hag1 hck1 ?_ h611
      unfold pnT
      rw [if_pos (by omega)]
      have e0 : j = 0 := by omega
      subst e0
      exact hp1
    · skip
      refine hz_aloadn (pc := 270) 5 (hz_dec kX12_poolAnew 148 rfl) rfl ?_
      refine hz_iloadn (pc := 271) 6 (hz_dec kX12_poolAnew 149 rfl) rfl ?_
      refine hz_aloadn (pc := 272) 5 (hz_dec kX12_poolAnew 150 rfl) rfl ?_
      refine hz_get (pc := 273) (v := .ref (B + 62)) (hz_dec kX12_poolAnew 151 rfl) fo_X12_205 hO1 h8 (by omega) (hF1.2 71 (by decide) (by decide)) ?_
      refine hz_iload (pc := 276) 2 (hz_dec kX12_poolAnew 152 rfl) rfl ?_
      refine hz_iload (pc := 278) 0 (hz_dec kX12_poolAnew 153 rfl) rfl ?_
      refine hz_callV (pc := 280) (a := B) (As := [.int (nI v), .ref (B + 62), .int (nI (bkS (bBy bl (upE en old i)) j)), .int (nI ((bkT (bBy bl (upE en old i)) j).length))]) (st := []) (hz_dec kX12_poolAnew 154 rfl) co_X12_567 im_X12_tryPool se_X12_tryPool rfl hO1 h8 (by omega) (c_tryP hk1 hEB hv hb hmn1 hcv1 hp1 (poW_T hpB j) hEB.a62 (by omega) (by omega) (ne_off (by decide)) (by decide) tA (by omega)) rfl (by decide) ⟨Nat.le_refl _, Nat.le_refl _⟩ (Nat.le_of_ble_eq_true rfl) rfl (fun r9 z9 M2 hp9 => ?_)
      obtain ⟨rfl, rfl, hf2, hE2, hag2, hck2, hp2⟩ := hp9
      have h612 : ∀ q, q < m → fA M2 B 61 q = nI (upE en old q) := by rw [fA_m hf2 (by decide) rfl]; exact h611
      refine hz_iload (pc := 283) 2 (hz_dec kX12_poolAnew 155 rfl) rfl ?_
      refine hz_iload (pc := 285) 0 (hz_dec kX12_poolAnew 156 rfl) rfl ?_
      refine hz_addN (pc := 287) (hz_dec kX12_poolAnew 157 rfl) ?_
      refine hz_istore (pc := 288) (i := 7) (lo2 := [(7, .int (nI ((bkS (bBy bl (upE en old i)) j) + ((bkT (bBy bl (upE en old i)) j).length)))), (9, .int (nI ((bkT (bBy bl (upE en old i)) j).length))), (8, .int (nI j)), (6, .int (nI (128 * v + upE en old i))), (5, .int (nI i)), (0, .ref B), (1, .int (nI v)), (2, .int (nI old))]) (hz_dec kX12_poolAnew 158 rfl) (by decide) rfl ?_
      refine hz_incN (pc := 290) (i := 8) (lo2 := [(8, .int (nI (j + 1))), (7, .int (nI ((bkS (bBy bl (upE en old i)) j) + ((bkT (bBy bl (upE en old i)) j).length)))), (9, .int (nI ((bkT (bBy bl (upE en old i)) j).length))), (6, .int (nI (128 * v + upE en old i))), (5, .int (nI i)), (0, .ref B), (1, .int (nI v)), (2, .int (nI old))]) 2 (hz_dec kX12_poolAnew 159 rfl) rfl (by decide) rfl ?_
      refine hz_goto (pc := 293) (tgt := 220) (hz_dec kX12_poolAnew 160 rfl) (by decide) ?_
      have e9 : nI (bkS (bBy bl (upE en old i)) j + (bkT (bBy bl (upE en old i)) j).length) = nI (bkS (bBy bl (upE en old i)) (j + 1)) := by rw [t1]
      refine hz_pick (pc := 220) [0, 1, 3, 4, 5, 6, 7] rfl ?_
      rw [e9]
      refine ih (bkN (bBy bl (upE en old i)) - (j + 1)) (by omega) (j + 1) M2 rfl (by omega) (hfr1.tr (hf2.mono rfl rfl)) hE2 (hag1.tr hag2) (hck1.tr hck2) ?_ h612
      unfold pnT
      rw [if_neg (by omega)]
      exact hp2
set_option maxHeartbeats 4000000 in
set_option maxRecDepth 100000 in
theorem c_pa3 {κ : hz_C} {z : Nat} {M0 : hz_M} {B : Nat} (hk0 : md_k B M0 z) (hE0 : mdE M0 B) {v tip : Nat} {bl : List bk_B} {en : List en_E} (hv : v < 6) (hb : blP bl en tip) (hmn0 : mnB M0 B v bl en tip) (hcv0 : cvX M0 B v bl en) {po0 : List po_P} (hpw0 : poW po0) {old : Nat} (hold : old < bl.length) {m : Nat} (hmo : m ≤ eH en old) {pO : List po_P} (hpO : poW pO) (hpe : pO = pnO (coAt bl en tip) (eH en tip + 1) po0 po0.length) (hoff : ∀ j, j < m → onC en tip (upE en old j) = false) : ∀ k M, k ≤ m → mfr B [53, 54, 55, 59] [3, 4, 5, 6, 8, 9, 43, 44, 45, 46, 47, 48, 49, 50, 52, 54, 55, 56, 57, 58, 59, 60, 61, 62] M0 M → mdE M B → agV M0 M B v → cvK M0 M B v bl en → poX (fA M B) (fL M B) v (pnB bl en tip old (coAt bl en tip) (eH en tip + 1) (eH en old + 1 - k) pO) → (∀ q, q < m → fA M B 61 q = nI (upE en old q)) → hz_W κ xX12_poolAnew 10 0 0 (fun rr z2 M2 => none = rr ∧ z = z2 ∧ mfr B [53, 54, 55, 59] [3, 4, 5, 6, 8, 9, 43, 44, 45, 46, 47, 48, 49, 50, 52, 54, 55, 56, 57, 58, 59, 60, 61, 62] M0 M2 ∧ mdE M2 B ∧ agV M0 M2 B v ∧ cvK M0 M2 B v bl en ∧ poX (fA M2 B) (fL M2 B) v (pnS bl en tip old po0)) 0 0 195 [(5, .int (nI k - 1)), (0, .ref B), (1, .int (nI v)), (2, .int (nI old))] [] z M := by
  intro k
  induction k with
  | zero =>
    intro M hkm hfr hE hag hck hp h61
    refine hz_iload (pc := 195) 0 (hz_dec kX12_poolAnew 109 rfl) rfl ?_
    refine hz_if_lt (pc := 197) (tgt := 302) (hz_dec kX12_poolAnew 110 rfl) (by decide) (fun q1 => ?_) (fun q1 => ?_)
    · skip
      exact hz_vret (pc := 302) (hz_dec kX12_poolAnew 163 rfl) rfl ⟨rfl, rfl, hfr, hE, hag, hck, by unfold pnS; rw [← hpe]; exact hp⟩
    · skip
      exact absurd (by decide) q1
  | succ i ih =>
    intro M hkm hfr hE hag hck hp h61
    rw [nI_pred]
    obtain ⟨-, -, -, h8, hz⟩ := id hk0
    obtain ⟨fs, hO, hF⟩ := id hfr.2.1
    have hkM : md_k B M z := hk0.mf hfr rfl rfl
    have hmn : mnB M B v bl en tip := hmn0.mf hfr rfl
    have hcv : cvX M B v bl en := hck v bl en hv (fun _ => ⟨rfl, rfl⟩) hcv0
    obtain ⟨b1, b2, b3, b4, b5, b6, b7, b8⟩ := id hb
    have hoe := b3.ht (k := old) (by omega)
    have h61i := h61 i (by omega)
    have hu := b3.up (k := old) (by omega) i (by omega)
    refine hz_iload (pc := 195) 0 (hz_dec kX12_poolAnew 109 rfl) rfl ?_
    refine hz_z_lt (pc := 197) (tgt := 302) (hz_dec kX12_poolAnew 110 rfl) (by decide) (by omega) ?_
    refine hz_iloadn (pc := 200) 2 (hz_dec kX12_poolAnew 111 rfl) rfl ?_
    refine hz_aloadn (pc := 201) 1 (hz_dec kX12_poolAnew 112 rfl) rfl ?_
    refine hz_get (pc := 202) (v := .ref (B + 61)) (hz_dec kX12_poolAnew 113 rfl) fo_X12_202 hO h8 (by omega) (hF.2 70 (by decide) (by decide)) ?_
    refine hz_iload (pc := 205) 0 (hz_dec kX12_poolAnew 114 rfl) rfl ?_
    refine hz_iald (pc := 207) (j := i) (hz_dec kX12_poolAnew 115 rfl) hE.a61 (by omega) (by omega) rfl (by omega) (by decide) ?_
    refine hz_eqi (pc := 208) h61i ?_
    refine hz_xS (pc := 208) (As := [.int (nI v), .int (nI (upE en old i))]) (st := []) (hz_dec kX12_poolAnew 116 rfl) co_X12_419 sc_X12_at0 (c_at0) rfl (by decide) ⟨Nat.le_refl _, Nat.le_refl _⟩ (Nat.le_of_ble_eq_true rfl) rfl ?_
    refine hz_istore (pc := 211) (i := 6) (lo2 := [(6, .int (nI (128 * v + upE en old i))), (5, .int (nI i)), (0, .ref B), (1, .int (nI v)), (2, .int (nI old))]) (hz_dec kX12_poolAnew 117 rfl) (by decide) rfl ?_
    refine hz_bipush (pc := 213) (v := nI 81) (hz_dec kX12_poolAnew 118 rfl) (by decide) ?_
    refine hz_istore (pc := 215) (i := 7) (lo2 := [(7, .int (nI 81)), (6, .int (nI (128 * v + upE en old i))), (5, .int (nI i)), (0, .ref B), (1, .int (nI v)), (2, .int (nI old))]) (hz_dec kX12_poolAnew 119 rfl) (by decide) rfl ?_
    refine hz_iconst (pc := 217) (v := nI 0) (hz_dec kX12_poolAnew 120 rfl) (by decide) ?_
    refine hz_istore (pc := 218) (i := 8) (lo2 := [(8, .int (nI 0)), (7, .int (nI 81)), (6, .int (nI (128 * v + upE en old i))), (5, .int (nI i)), (0, .ref B), (1, .int (nI v)), (2, .int (nI old))]) (hz_dec kX12_poolAnew 121 rfl) (by decide) rfl ?_
    refine hz_pick (pc := 220) [0, 1, 2, 3, 4, 5, 6] rfl ?_
    have e81 : nI 81 = nI (bkS (bBy bl (upE en old i)) 0) := by rw [bkS_0]
    rw [e81]
    refine c_pa4 hk0 hE0 hv hb hmn0 hcv0 hpw0 hold (m := m) (by omega) hmo (poW_B hpO (eH en old + 1 - (i + 1))) (fun M4 hfr4 hE4 hag4 hck4 hp4 h614 => ?_) (bkN (bBy bl (upE en old i))) 0 M rfl (by omega) hfr hE hag hck hp h61
    refine hz_iinc (pc := 296) (i := 5) (w := nI i - 1) (lo2 := [(5, .int (nI i - 1)), (0, .ref B), (1, .int (nI v)), (2, .int (nI old))]) 0 (hz_dec kX12_poolAnew 161 rfl) rfl (hz_m1 _) (by decide) rfl ?_
    refine hz_goto (pc := 299) (tgt := 195) (hz_dec kX12_poolAnew 162 rfl) (by decide) ?_
    refine hz_pick (pc := 195) [0, 1, 2, 3] rfl ?_
    refine ih M4 (by omega) hfr4 hE4 hag4 hck4 ?_ h614
    have ec : chE en old (eH en old + 1 - (i + 1)) = upE en old i := by unfold chE; rw [show eH en old - (eH en old + 1 - (i + 1)) = i by omega]
    rw [show eH en old + 1 - i = (eH en old + 1 - (i + 1)) + 1 by omega]
    unfold pnB
    rw [ec, if_neg (by rw [hoff i (by omega)]; decide)]
    exact hp4
set_option maxHeartbeats 4000000 in
set_option maxRecDepth 100000 in
theorem c_pa2 {κ : hz_C} {z : Nat} {M0 : hz_M} {B : Nat} (hk0 : md_k B M0 z) (hE0 : mdE M0 B) {v tip : Nat} {bl : List bk_B} {en : List en_E} (hv : v < 6) (hb : blP bl en tip) (hmn0 : mnB M0 B v bl en tip) (hcv0 : cvX M0 B v bl en) {po0 : List po_P} (hpw0 : poW po0) {old : Nat} (hold : old < bl.length) {pO : List po_P} (hpO : poW pO) (hpe : pO = pnO (coAt bl en tip) (eH en tip + 1) po0 po0.length) : ∀ k m M, k = eH en old - m → m ≤ eH en old → (∀ j, j < m → onC en tip (upE en old j) = false) → mfr B [53, 54, 55, 59] [3, 4, 5, 6, 8, 9, 43, 44, 45, 46, 47, 48, 49, 50, 52, 54, 55, 56, 57, 58, 59, 60, 61, 62] M0 M → mdE M B → agV M0 M B v → cvK M0 M B v bl en → poX (fA M B) (fL M B) v pO → (∀ q, q < m → fA M B 61 q = nI (upE en old q)) → hz_W κ xX12_poolAnew 10 0 0 (fun rr z2 M2 => none = rr ∧ z = z2 ∧ mfr B [53, 54, 55, 59] [3, 4, 5, 6, 8, 9, 43, 44, 45, 46, 47, 48, 49, 50, 52, 54, 55, 56, 57, 58, 59, 60, 61, 62] M0 M2 ∧ mdE M2 B ∧ agV M0 M2 B v ∧ cvK M0 M2 B v bl en ∧ poX (fA M2 B) (fL M2 B) v (pnS bl en tip old po0)) 0 0 145 [(5, .int (nI (upE en old m))), (4, .int (nI m)), (0, .ref B), (1, .int (nI v)), (2, .int (nI old))] [] z M := by
  intro k
  induction k using Nat.strongRecOn with
  | ind k ih =>
  intro m M hk hm hoff hfr hE hag hck hp h61
  obtain ⟨-, -, -, h8, hz⟩ := id hk0
  obtain ⟨fs, hO, hF⟩ := id hfr.2.1
  have hkM : md_k B M z := hk0.mf hfr rfl rfl
  have hmn : mnB M B v bl en tip := hmn0.mf hfr rfl
  have hcv : cvX M B v bl en := hck v bl en hv (fun _ => ⟨rfl, rfl⟩) hcv0
  obtain ⟨b1, b2, b3, b4, b5, b6, b7, b8⟩ := id hb
  have hoe := b3.ht (k := old) (by omega)
  have hu := b3.up (k := old) (by omega) m hm
  have hR := hmn.1
  refine hz_aloadn (pc := 145) 2 (hz_dec kX12_poolAnew 82 rfl) rfl ?_
  refine hz_iloadn (pc := 146) 3 (hz_dec kX12_poolAnew 83 rfl) rfl ?_
  refine hz_iload (pc := 147) 0 (hz_dec kX12_poolAnew 84 rfl) rfl ?_
  refine hz_aloadn (pc := 149) 2 (hz_dec kX12_poolAnew 85 rfl) rfl ?_
  refine hz_get (pc := 150) (v := .ref (B + 21)) (hz_dec kX12_poolAnew 86 rfl) fo_X12_74 hO h8 (by omega) (hF.2 23 (by decide) (by decide)) ?_
  refine hz_iloadn (pc := 153) 3 (hz_dec kX12_poolAnew 87 rfl) rfl ?_
  refine hz_iald (pc := 154) (j := v) (hz_dec kX12_poolAnew 88 rfl) hE.a21 (by omega) (by omega) rfl (by omega) (by decide) ?_
  refine hz_eqi (pc := 155) hmn.2.1.2.1 ?_
  refine hz_xV (pc := 155) (a := B) (As := [.int (nI v), .int (nI (upE en old m)), .int (nI tip)]) (st := []) (hz_dec kX12_poolAnew 89 rfl) co_X12_571 im_X12_isOnChain se_X12_isOnChain rfl hO h8 (by omega) (c_mOn hfr.2.1 hE h8 hz hv (by omega) (by omega) hR b3 b5 (x := upE en old m) (by omega)) rfl (by decide) ⟨Nat.le_refl _, Nat.le_refl _⟩ (Nat.le_of_ble_eq_true rfl) rfl ?_
  refine hz_if_ne (pc := 158) (tgt := 189) (hz_dec kX12_poolAnew 90 rfl) (by decide) (fun h2 => ?_) (fun h2 => ?_)
  · skip
    skip
    refine hz_iload (pc := 189) 1 (hz_dec kX12_poolAnew 105 rfl) rfl ?_
    refine hz_iconst (pc := 191) (v := nI 1) (hz_dec kX12_poolAnew 106 rfl) (by decide) ?_
    refine hz_isub (pc := 192) (hz_dec kX12_poolAnew 107 rfl) ?_
    refine hz_eqi (pc := 193) (show _ = nI m - 1 from rfl) ?_
    refine hz_istore (pc := 193) (i := 5) (lo2 := [(5, .int (nI m - 1)), (4, .int (nI m)), (0, .ref B), (1, .int (nI v)), (2, .int (nI old))]) (hz_dec kX12_poolAnew 108 rfl) (by decide) rfl ?_
    refine hz_pick (pc := 195) [0, 2, 3, 4] rfl ?_
    refine c_pa3 hk0 hE0 hv hb hmn0 hcv0 hpw0 hold hm hpO hpe hoff m M (Nat.le_refl _) hfr hE hag hck ?_ h61
    rw [pnB_on _ (fun j hj => ?_)]
    · exact hp
    · unfold chE
      have q := onC_dn b3 (tip := tip) (old := old) (m := m) (by omega) (by omega) (hz_b1 h2) (eH en old - j - m) (by omega)
      rw [show m + (eH en old - j - m) = eH en old - j by omega] at q
      exact q
  · skip
    have hm1 : m < eH en old := by
      rcases (show m < eH en old ∨ m = eH en old by omega) with c | c
      · exact c
      · have q := hz_b0 h2; rw [c, (b3.top (k := old) (by omega)).1, onC_0 b3 (by omega)] at q; cases q
    have hpv := b3.pv (k := old) (by omega) hm1
    have hRy := (hR (upE en old m) (by omega)).1 (by omega)
    have hu1 := b3.up (k := old) (by omega) (m + 1) hm1
    have h26 : fA M B 26 (128 * v + upE en old m) = nI (upE en old (m + 1)) := by rw [hRy.1, hpv]; show nI (rx bl.length (upE en old (m + 1))) = _; rw [rx_lt (by omega)]
    refine hz_aloadn (pc := 161) 2 (hz_dec kX12_poolAnew 91 rfl) rfl ?_
    refine hz_get (pc := 162) (v := .ref (B + 61)) (hz_dec kX12_poolAnew 92 rfl) fo_X12_202 hO h8 (by omega) (hF.2 70 (by decide) (by decide)) ?_
    refine hz_iload (pc := 165) 1 (hz_dec kX12_poolAnew 93 rfl) rfl ?_
    refine hz_iload (pc := 167) 0 (hz_dec kX12_poolAnew 94 rfl) rfl ?_
    refine hz_iast (pc := 169) (j := m) (hz_dec kX12_poolAnew 95 rfl) hE.a61 (by omega) (by omega) rfl (by omega) (by decide) ?_
    refine hz_incN (pc := 170) (i := 4) (lo2 := [(4, .int (nI (m + 1))), (5, .int (nI (upE en old m))), (0, .ref B), (1, .int (nI v)), (2, .int (nI old))]) 1 (hz_dec kX12_poolAnew 96 rfl) rfl (by decide) rfl ?_
    refine hz_aloadn (pc := 173) 2 (hz_dec kX12_poolAnew 97 rfl) rfl ?_
    refine hz_get (pc := 174) (v := .ref (B + 26)) (hz_dec kX12_poolAnew 98 rfl) fo_X12_89 (hz_mne hO (by omega)) h8 (by omega) (hF.2 28 (by decide) (by decide)) ?_
    refine hz_iloadn (pc := 177) 3 (hz_dec kX12_poolAnew 99 rfl) rfl ?_
    refine hz_iload (pc := 178) 1 (hz_dec kX12_poolAnew 100 rfl) rfl ?_
    refine hz_xS (pc := 180) (As := [.int (nI v), .int (nI (upE en old m))]) (st := [.ref (B + 26)]) (hz_dec kX12_poolAnew 101 rfl) co_X12_419 sc_X12_at0 (c_at0) rfl (by decide) ⟨Nat.le_refl _, Nat.le_refl _⟩ (Nat.le_of_ble_eq_true rfl) rfl ?_
    refine hz_iald (pc := 183) (j := 128 * v + upE en old m) (hz_dec kX12_poolAnew 102 rfl) (hz_mne hE.a26 (by omega)) (by omega) (by omega) rfl (by omega) (by decide) ?_
    refine hz_eqi (pc := 184) h26 ?_
    refine hz_istore (pc := 184) (i := 5) (lo2 := [(5, .int (nI (upE en old (m + 1)))), (4, .int (nI (m + 1))), (0, .ref B), (1, .int (nI v)), (2, .int (nI old))]) (hz_dec kX12_poolAnew 103 rfl) (by decide) rfl ?_
    refine hz_goto (pc := 186) (tgt := 145) (hz_dec kX12_poolAnew 104 rfl) (by decide) ?_
    refine hz_pick (pc := 145) [0, 1, 2, 3, 4] rfl ?_
    have e9 : ∀ o, ¬ o = 61 → fA (va_up M (B + 61) (.inl (0, 128, .inl (upd (fA M B 61) m ((nI (upE en old m))))))) B o = fA M B o := fun o ho => fA_c (va_up_ne _ _ (by omega))
    have hf9 : mfr B [] [61] M (va_up M (B + 61) (.inl (0, 128, .inl (upd (fA M B 61) m ((nI (upE en old m))))))) := (mfr.rf ⟨fs, hO, hF⟩).upA (o := 61) rfl (by decide)
    refine ih (eH en old - (m + 1)) (by omega) (m + 1) _ rfl (by omega) (fun j hj => ?_) (hfr.tr (hf9.mono rfl rfl)) (hE.upA (by decide)) (hag.tr (agV.mf hf9 rfl rfl)) (hck.tr (cvK.mf hf9 rfl rfl rfl rfl)) (hp.mf hf9 rfl) ?_
    · rcases (show j = m ∨ j < m by omega) with e | c
      · rw [e]; exact hz_b0 h2
      · exact hoff j c
    · rw [fA_of (va_up_self _ _ _)]
      intro q hq
      rcases (show q = m ∨ q < m by omega) with e | c
      · rw [e, upd_s]
      · rw [upd_o (by omega)]; exact h61 q c
set_option maxHeartbeats 4000000 in
set_option maxRecDepth 100000 in
theorem c_pa1 {κ : hz_C} {z : Nat} {M0 : hz_M} {B : Nat} (hk0 : md_k B M0 z) (hE0 : mdE M0 B) {v tip : Nat} {bl : List bk_B} {en : List en_E} (hv : v < 6) (hb : blP bl en tip) (hmn0 : mnB M0 B v bl en tip) (hcv0 : cvX M0 B v bl en) {po0 : List po_P} (hpw0 : poW po0) {old : Nat} (hold : old < bl.length) : ∀ k i M, k = po0.length - i → i ≤ po0.length → mfr B [53, 54, 55, 59] [3, 4, 5, 6, 8, 9, 43, 44, 45, 46, 47, 48, 49, 50, 52, 54, 55, 56, 57, 58, 59, 60, 61, 62] M0 M → mdE M B → agV M0 M B v → cvK M0 M B v bl en → poX (fA M B) (fL M B) v (pnO (coAt bl en tip) (eH en tip + 1) po0 i) → (∀ q, q < po0.length → fA M B 60 q = nI (poL po0 q).length ∧ isA (fA M B 59) (360 * q) (poL po0 q)) → hz_W κ xX12_poolAnew 10 0 0 (fun rr z2 M2 => none = rr ∧ z = z2 ∧ mfr B [53, 54, 55, 59] [3, 4, 5, 6, 8, 9, 43, 44, 45, 46, 47, 48, 49, 50, 52, 54, 55, 56, 57, 58, 59, 60, 61, 62] M0 M2 ∧ mdE M2 B ∧ agV M0 M2 B v ∧ cvK M0 M2 B v bl en ∧ poX (fA M2 B) (fL M2 B) v (pnS bl en tip old po0)) 0 0 105 [(4, .int (nI i)), (3, .int (nI (po0.length))), (0, .ref B), (1, .int (nI v)), (2, .int (nI old))] [] z M := by
  intro k
  induction k using Nat.strongRecOn with
  | ind k ih =>
  intro i M hk hi hfr hE hag hck hp hh
  obtain ⟨-, -, -, h8, hz⟩ := id hk0
  obtain ⟨fs, hO, hF⟩ := id hfr.2.1
  have hkM : md_k B M z := hk0.mf hfr rfl rfl
  have hmn : mnB M B v bl en tip := hmn0.mf hfr rfl
  have hcv : cvX M B v bl en := hck v bl en hv (fun _ => ⟨rfl, rfl⟩) hcv0
  obtain ⟨b1, b2, b3, b4, b5, b6, b7, b8⟩ := id hb
  have hoe := b3.ht (k := old) (by omega)
  have hpl := hpw0.1
  refine hz_iload (pc := 105) 0 (hz_dec kX12_poolAnew 61 rfl) rfl ?_
  refine hz_iloadn (pc := 107) 1 (hz_dec kX12_poolAnew 62 rfl) rfl ?_
  refine hz_n_ge (pc := 108) (tgt := 139) (hz_dec kX12_poolAnew 63 rfl) (by decide) (by omega) (by omega) (fun h1 => ?_) (fun h1 => ?_)
  · skip
    have e : i = po0.length := by omega
    refine hz_iconst (pc := 139) (v := nI 0) (hz_dec kX12_poolAnew 78 rfl) (by decide) ?_
    refine hz_istore (pc := 140) (i := 4) (lo2 := [(4, .int (nI 0)), (3, .int (nI (po0.length))), (0, .ref B), (1, .int (nI v)), (2, .int (nI old))]) (hz_dec kX12_poolAnew 79 rfl) (by decide) rfl ?_
    refine hz_iloadn (pc := 142) 4 (hz_dec kX12_poolAnew 80 rfl) rfl ?_
    refine hz_istore (pc := 143) (i := 5) (lo2 := [(5, .int (nI old)), (4, .int (nI 0)), (3, .int (nI (po0.length))), (0, .ref B), (1, .int (nI v)), (2, .int (nI old))]) (hz_dec kX12_poolAnew 81 rfl) (by decide) rfl ?_
    refine hz_pick (pc := 145) [0, 1, 3, 4, 5] rfl ?_
    exact c_pa2 hk0 hE0 hv hb hmn0 hcv0 hpw0 hold (poW_O po0.length) rfl (eH en old) 0 M rfl (Nat.zero_le _) (fun j hj => absurd hj (by omega)) hfr hE hag hck (by rw [← e]; exact hp) (fun q hq => absurd hq (by omega))
  · skip
    have tl := txW_len (hpw0.2 i h1).1
    have hA := (hh i h1).2
    refine hz_aloadn (pc := 111) 2 (hz_dec kX12_poolAnew 64 rfl) rfl ?_
    refine hz_iloadn (pc := 112) 3 (hz_dec kX12_poolAnew 65 rfl) rfl ?_
    refine hz_aloadn (pc := 113) 2 (hz_dec kX12_poolAnew 66 rfl) rfl ?_
    refine hz_get (pc := 114) (v := .ref (B + 59)) (hz_dec kX12_poolAnew 67 rfl) fo_X12_196 hO h8 (by omega) (hF.2 68 (by decide) (by decide)) ?_
    refine hz_sipush (pc := 117) (v := nI 360) (hz_dec kX12_poolAnew 68 rfl) (by decide) ?_
    refine hz_iload (pc := 120) 0 (hz_dec kX12_poolAnew 69 rfl) rfl ?_
    refine hz_mulN (pc := 122) (hz_dec kX12_poolAnew 70 rfl) ?_
    refine hz_aloadn (pc := 123) 2 (hz_dec kX12_poolAnew 71 rfl) rfl ?_
    refine hz_get (pc := 124) (v := .ref (B + 60)) (hz_dec kX12_poolAnew 72 rfl) fo_X12_199 hO h8 (by omega) (hF.2 69 (by decide) (by decide)) ?_
    refine hz_iload (pc := 127) 0 (hz_dec kX12_poolAnew 73 rfl) rfl ?_
    refine hz_iald (pc := 129) (j := i) (hz_dec kX12_poolAnew 74 rfl) hE.a60 (by omega) (by omega) rfl (by omega) (by decide) ?_
    refine hz_eqi (pc := 130) (hh i h1).1 ?_
    refine hz_callV (pc := 130) (a := B) (As := [.int (nI v), .ref (B + 59), .int (nI (360 * i)), .int (nI ((poL po0 i).length))]) (st := []) (hz_dec kX12_poolAnew 75 rfl) co_X12_567 im_X12_tryPool se_X12_tryPool rfl hO h8 (by omega) (c_tryP hkM hE hv hb hmn hcv hp (poW_O i) hE.a59 (by omega) (by omega) (ne_off (by decide)) (by decide) hA (by omega)) rfl (by decide) ⟨Nat.le_refl _, Nat.le_refl _⟩ (Nat.le_of_ble_eq_true rfl) rfl (fun r9 z9 M2 hp9 => ?_)
    obtain ⟨rfl, rfl, hf2, hE2, hag2, hck2, hp2⟩ := hp9
    refine hz_incN (pc := 133) (i := 4) (lo2 := [(4, .int (nI (i + 1))), (3, .int (nI (po0.length))), (0, .ref B), (1, .int (nI v)), (2, .int (nI old))]) 0 (hz_dec kX12_poolAnew 76 rfl) rfl (by decide) rfl ?_
    refine hz_goto (pc := 136) (tgt := 105) (hz_dec kX12_poolAnew 77 rfl) (by decide) ?_
    refine hz_pick (pc := 105) [0, 1, 2, 3, 4] rfl ?_
    exact ih (po0.length - (i + 1)) (by omega) (i + 1) M2 rfl (by omega) (hfr.tr (hf2.mono rfl rfl)) hE2 (hag.tr hag2) (hck.tr hck2) hp2 (by rw [fA_m hf2 (by decide) rfl, fA_m hf2 (by decide) rfl]; exact hh)
set_option maxHeartbeats 4000000 in
set_option maxRecDepth 100000 in
theorem c_pa0i {κ : hz_C} {z : Nat} {M0 : hz_M} {B : Nat} (hk0 : md_k B M0 z) (hE0 : mdE M0 B) {v tip : Nat} {bl : List bk_B} {en : List en_E} (hv : v < 6) (hb : blP bl en tip) (hmn0 : mnB M0 B v bl en tip) (hcv0 : cvX M0 B v bl en) {po0 : List po_P} (hpw0 : poW po0) {old : Nat} (hold : old < bl.length) (hp0 : poX (fA M0 B) (fL M0 B) v po0) {i : Nat} (hi : i < po0.length) {P : hz_P} (K : ∀ M, mfr B [] [59, 60] M0 M → mdE M B → (∀ q, q < (i + 1) → fA M B 60 q = nI (poL po0 q).length ∧ isA (fA M B 59) (360 * q) (poL po0 q)) → hz_W κ xX12_poolAnew 10 0 0 P 0 0 89 [(4, .int (nI i)), (3, .int (nI (po0.length))), (0, .ref B), (1, .int (nI v)), (2, .int (nI old))] [] z M) : ∀ k j M, k = (poL po0 i).length - j → j ≤ (poL po0 i).length → mfr B [] [59, 60] M0 M → mdE M B → (∀ q, q < i → fA M B 60 q = nI (poL po0 q).length ∧ isA (fA M B 59) (360 * q) (poL po0 q)) → fA M B 60 i = nI (poL po0 i).length → (∀ q, q < j → fA M B 59 (360 * i + q) = lf (poL po0 i) q) → hz_W κ xX12_poolAnew 10 0 0 P 0 0 38 [(5, .int (nI j)), (4, .int (nI i)), (3, .int (nI (po0.length))), (0, .ref B), (1, .int (nI v)), (2, .int (nI old))] [] z M := by
  intro k
  induction k using Nat.strongRecOn with
  | ind k ih =>
  intro j M hk hj hfr hE hh h60 h59
  obtain ⟨-, -, -, h8, hz⟩ := id hk0
  obtain ⟨fs, hO, hF⟩ := id hfr.2.1
  have tl := txW_len (hpw0.2 i hi).1
  have hpl := hpw0.1
  have hA54 : isA (fA M B 54) (360 * (16 * v + i)) (poL po0 i) := by rw [fA_m hfr (by decide) rfl]; exact (hp0.2 i hi).2.2.2
  refine hz_bytes hE.a54 (by omega) (by omega) (fun hby => ?_)
  refine hz_iload (pc := 38) 0 (hz_dec kX12_poolAnew 24 rfl) rfl ?_
  refine hz_aloadn (pc := 40) 3 (hz_dec kX12_poolAnew 25 rfl) rfl ?_
  refine hz_get (pc := 41) (v := .ref (B + 60)) (hz_dec kX12_poolAnew 26 rfl) fo_X12_199 hO h8 (by omega) (hF.2 69 (by decide) (by decide)) ?_
  refine hz_iload (pc := 44) 1 (hz_dec kX12_poolAnew 27 rfl) rfl ?_
  refine hz_iald (pc := 46) (j := i) (hz_dec kX12_poolAnew 28 rfl) hE.a60 (by omega) (by omega) rfl (by omega) (by decide) ?_
  refine hz_eqi (pc := 47) h60 ?_
  refine hz_n_ge (pc := 47) (tgt := 89) (hz_dec kX12_poolAnew 29 rfl) (by decide) (by omega) (by omega) (fun h1 => ?_) (fun h1 => ?_)
  · skip
    have e : j = (poL po0 i).length := by omega
    refine hz_pick (pc := 89) [1, 2, 3, 4, 5] rfl ?_
    refine K M hfr hE (fun q hq => ?_)
    rcases (show q = i ∨ q < i by omega) with c | c
    · rw [c]; exact ⟨h60, fun x hx => h59 x (by omega)⟩
    · exact hh q c
  · skip
    refine hz_aloadn (pc := 50) 3 (hz_dec kX12_poolAnew 30 rfl) rfl ?_
    refine hz_get (pc := 51) (v := .ref (B + 59)) (hz_dec kX12_poolAnew 31 rfl) fo_X12_196 hO h8 (by omega) (hF.2 68 (by decide) (by decide)) ?_
    refine hz_sipush (pc := 54) (v := nI 360) (hz_dec kX12_poolAnew 32 rfl) (by decide) ?_
    refine hz_iload (pc := 57) 1 (hz_dec kX12_poolAnew 33 rfl) rfl ?_
    refine hz_mulN (pc := 59) (hz_dec kX12_poolAnew 34 rfl) ?_
    refine hz_iload (pc := 60) 0 (hz_dec kX12_poolAnew 35 rfl) rfl ?_
    refine hz_addN (pc := 62) (hz_dec kX12_poolAnew 36 rfl) ?_
    refine hz_aloadn (pc := 63) 3 (hz_dec kX12_poolAnew 37 rfl) rfl ?_
    refine hz_get (pc := 64) (v := .ref (B + 54)) (hz_dec kX12_poolAnew 38 rfl) fo_X12_181 hO h8 (by omega) (hF.2 63 (by decide) (by decide)) ?_
    refine hz_sipush (pc := 67) (v := nI 360) (hz_dec kX12_poolAnew 39 rfl) (by decide) ?_
    refine hz_bipush (pc := 70) (v := nI 16) (hz_dec kX12_poolAnew 40 rfl) (by decide) ?_
    refine hz_iloadn (pc := 72) 4 (hz_dec kX12_poolAnew 41 rfl) rfl ?_
    refine hz_mulN (pc := 73) (hz_dec kX12_poolAnew 42 rfl) ?_
    refine hz_iload (pc := 74) 1 (hz_dec kX12_poolAnew 43 rfl) rfl ?_
    refine hz_addN (pc := 76) (hz_dec kX12_poolAnew 44 rfl) ?_
    refine hz_mulN (pc := 77) (hz_dec kX12_poolAnew 45 rfl) ?_
    refine hz_iload (pc := 78) 0 (hz_dec kX12_poolAnew 46 rfl) rfl ?_
    refine hz_addN (pc := 80) (hz_dec kX12_poolAnew 47 rfl) ?_
    refine hz_bald (pc := 81) (j := (360 * ((16 * v) + i)) + j) (hz_dec kX12_poolAnew 48 rfl) hE.a54 (by omega) (by omega) rfl (by omega) (by decide) ?_
    refine hz_bast (pc := 82) (j := (360 * i) + j) (hz_dec kX12_poolAnew 49 rfl) hE.a59 (by omega) (by omega) rfl (by omega) (by decide) ?_
    refine hz_incN (pc := 83) (i := 5) (lo2 := [(5, .int (nI (j + 1))), (4, .int (nI i)), (3, .int (nI (po0.length))), (0, .ref B), (1, .int (nI v)), (2, .int (nI old))]) 0 (hz_dec kX12_poolAnew 50 rfl) rfl (by decide) rfl ?_
    refine hz_goto (pc := 86) (tgt := 38) (hz_dec kX12_poolAnew 51 rfl) (by decide) ?_
    refine hz_pick (pc := 38) [0, 1, 2, 3, 4, 5] rfl ?_
    have e9 : fA (va_up M (B + 59) (.inl (1, 5760, .inl (upd (fA M B 59) ((360 * i) + j) (((fA M B 54) ((360 * ((16 * v) + i)) + j)).toInt8.toInt32))))) B 60 = fA M B 60 := fA_c (va_up_ne _ _ (by omega))
    refine ih ((poL po0 i).length - (j + 1)) (by omega) (j + 1) _ rfl (by omega) (hfr.upA (o := 59) rfl (by decide)) (hE.upA (by decide)) ?_ (by rw [e9]; exact h60) ?_
    · rw [e9, fA_of (va_up_self _ _ _)]
      intro q hq
      refine ⟨(hh q hq).1, fun x hx => ?_⟩
      have tq := txW_len (hpw0.2 q (by omega)).1
      rw [upd_o (by omega)]
      exact (hh q hq).2 x hx
    · rw [fA_of (va_up_self _ _ _)]
      intro q hq
      rcases (show q = j ∨ q < j by omega) with e | c
      · rw [e, upd_s, hby _ (by omega)]; exact hA54 j h1
      · rw [upd_o (by omega)]; exact h59 q c
set_option maxHeartbeats 4000000 in
set_option maxRecDepth 100000 in
theorem c_pa0 {κ : hz_C} {z : Nat} {M0 : hz_M} {B : Nat} (hk0 : md_k B M0 z) (hE0 : mdE M0 B) {v tip : Nat} {bl : List bk_B} {en : List en_E} (hv : v < 6) (hb : blP bl en tip) (hmn0 : mnB M0 B v bl en tip) (hcv0 : cvX M0 B v bl en) {po0 : List po_P} (hpw0 : poW po0) {old : Nat} (hold : old < bl.length) (hp0 : poX (fA M0 B) (fL M0 B) v po0) : ∀ k i M, k = po0.length - i → i ≤ po0.length → mfr B [] [59, 60] M0 M → mdE M B → (∀ q, q < i → fA M B 60 q = nI (poL po0 q).length ∧ isA (fA M B 59) (360 * q) (poL po0 q)) → hz_W κ xX12_poolAnew 10 0 0 (fun rr z2 M2 => none = rr ∧ z = z2 ∧ mfr B [53, 54, 55, 59] [3, 4, 5, 6, 8, 9, 43, 44, 45, 46, 47, 48, 49, 50, 52, 54, 55, 56, 57, 58, 59, 60, 61, 62] M0 M2 ∧ mdE M2 B ∧ agV M0 M2 B v ∧ cvK M0 M2 B v bl en ∧ poX (fA M2 B) (fL M2 B) v (pnS bl en tip old po0)) 0 0 10 [(4, .int (nI i)), (3, .int (nI (po0.length))), (0, .ref B), (1, .int (nI v)), (2, .int (nI old))] [] z M := by
  intro k
  induction k using Nat.strongRecOn with
  | ind k ih =>
  intro i M hk hi hfr hE hh
  obtain ⟨-, -, -, h8, hz⟩ := id hk0
  obtain ⟨fs, hO, hF⟩ := id hfr.2.1
  have hpl := hpw0.1
  have hp := hp0.mf hfr rfl
  refine hz_iload (pc := 10) 0 (hz_dec kX12_poolAnew 7 rfl) rfl ?_
  refine hz_iloadn (pc := 12) 1 (hz_dec kX12_poolAnew 8 rfl) rfl ?_
  refine hz_n_ge (pc := 13) (tgt := 95) (hz_dec kX12_poolAnew 9 rfl) (by decide) (by omega) (by omega) (fun h1 => ?_) (fun h1 => ?_)
  · skip
    have e : i = po0.length := by omega
    refine hz_aloadn (pc := 95) 2 (hz_dec kX12_poolAnew 54 rfl) rfl ?_
    refine hz_get (pc := 96) (v := .ref (B + 58)) (hz_dec kX12_poolAnew 55 rfl) fo_X12_193 hO h8 (by omega) (hF.2 67 (by decide) (by decide)) ?_
    refine hz_iloadn (pc := 99) 3 (hz_dec kX12_poolAnew 56 rfl) rfl ?_
    refine hz_iconst (pc := 100) (v := nI 0) (hz_dec kX12_poolAnew 57 rfl) (by decide) ?_
    refine hz_iast (pc := 101) (j := v) (hz_dec kX12_poolAnew 58 rfl) hE.a58 (by omega) (by omega) rfl (by omega) (by decide) ?_
    refine hz_iconst (pc := 102) (v := nI 0) (hz_dec kX12_poolAnew 59 rfl) (by decide) ?_
    refine hz_istore (pc := 103) (i := 4) (lo2 := [(4, .int (nI 0)), (3, .int (nI (po0.length))), (0, .ref B), (1, .int (nI v)), (2, .int (nI old))]) (hz_dec kX12_poolAnew 60 rfl) (by decide) rfl ?_
    refine hz_pick (pc := 105) [0, 1, 2, 3, 4] rfl ?_
    have hf9 : mfr B [] [58] M (va_up M (B + 58) (.inl (0, 6, .inl (upd (fA M B 58) v ((nI (0))))))) := (mfr.rf ⟨fs, hO, hF⟩).upA (o := 58) rfl (by decide)
    have hg9 : agV M (va_up M (B + 58) (.inl (0, 6, .inl (upd (fA M B 58) v ((nI (0))))))) B v := agV.rf.upA (s := 1) (by decide) (by decide) (fun x hx => upd_o (by omega))
    refine c_pa1 hk0 hE0 hv hb hmn0 hcv0 hpw0 hold po0.length 0 _ rfl (Nat.zero_le _) ((hfr.mono rfl rfl).tr (hf9.mono rfl rfl)) (hE.upA (by decide)) ((agV.mf hfr rfl rfl).tr hg9) ((cvK.mf hfr rfl rfl rfl rfl).tr (cvK.mf hf9 rfl rfl rfl rfl)) ⟨?_, fun k9 hk9 => absurd hk9 (Nat.not_lt_zero k9)⟩ ?_
    · rw [fA_of (va_up_self _ _ _), upd_s]; rfl
    · rw [fA_m hf9 (by decide) rfl, fA_m hf9 (by decide) rfl, ← e]; exact hh
  · skip
    refine hz_aloadn (pc := 16) 2 (hz_dec kX12_poolAnew 10 rfl) rfl ?_
    refine hz_get (pc := 17) (v := .ref (B + 60)) (hz_dec kX12_poolAnew 11 rfl) fo_X12_199 hO h8 (by omega) (hF.2 69 (by decide) (by decide)) ?_
    refine hz_iload (pc := 20) 0 (hz_dec kX12_poolAnew 12 rfl) rfl ?_
    refine hz_aloadn (pc := 22) 2 (hz_dec kX12_poolAnew 13 rfl) rfl ?_
    refine hz_get (pc := 23) (v := .ref (B + 55)) (hz_dec kX12_poolAnew 14 rfl) fo_X12_184 hO h8 (by omega) (hF.2 64 (by decide) (by decide)) ?_
    refine hz_bipush (pc := 26) (v := nI 16) (hz_dec kX12_poolAnew 15 rfl) (by decide) ?_
    refine hz_iloadn (pc := 28) 3 (hz_dec kX12_poolAnew 16 rfl) rfl ?_
    refine hz_mulN (pc := 29) (hz_dec kX12_poolAnew 17 rfl) ?_
    refine hz_iload (pc := 30) 0 (hz_dec kX12_poolAnew 18 rfl) rfl ?_
    refine hz_addN (pc := 32) (hz_dec kX12_poolAnew 19 rfl) ?_
    refine hz_iald (pc := 33) (j := (16 * v) + i) (hz_dec kX12_poolAnew 20 rfl) hE.a55 (by omega) (by omega) rfl (by omega) (by decide) ?_
    refine hz_eqi (pc := 34) (hp.2 i h1).1 ?_
    refine hz_iast (pc := 34) (j := i) (hz_dec kX12_poolAnew 21 rfl) hE.a60 (by omega) (by omega) rfl (by omega) (by decide) ?_
    refine hz_iconst (pc := 35) (v := nI 0) (hz_dec kX12_poolAnew 22 rfl) (by decide) ?_
    refine hz_istore (pc := 36) (i := 5) (lo2 := [(5, .int (nI 0)), (4, .int (nI i)), (3, .int (nI (po0.length))), (0, .ref B), (1, .int (nI v)), (2, .int (nI old))]) (hz_dec kX12_poolAnew 23 rfl) (by decide) rfl ?_
    refine hz_pick (pc := 38) [0, 1, 2, 3, 4, 5] rfl ?_
    have e9 : fA (va_up M (B + 60) (.inl (0, 16, .inl (upd (fA M B 60) i ((nI ((poL po0 i).length))))))) B 59 = fA M B 59 := fA_c (va_up_ne _ _ (by omega))
    refine c_pa0i hk0 hE0 hv hb hmn0 hcv0 hpw0 hold hp0 h1 (fun M2 hfr2 hE2 hh2 => ?_) (poL po0 i).length 0 _ rfl (Nat.zero_le _) (hfr.upA (o := 60) rfl (by decide)) (hE.upA (by decide)) ?_ (by rw [fA_of (va_up_self _ _ _), upd_s]) (fun q hq => absurd hq (by omega))
    · skip
      refine hz_incN (pc := 89) (i := 4) (lo2 := [(4, .int (nI (i + 1))), (3, .int (nI (po0.length))), (0, .ref B), (1, .int (nI v)), (2, .int (nI old))]) 0 (hz_dec kX12_poolAnew 52 rfl) rfl (by decide) rfl ?_
      refine hz_goto (pc := 92) (tgt := 10) (hz_dec kX12_poolAnew 53 rfl) (by decide) ?_
      refine hz_pick (pc := 10) [0, 1, 2, 3, 4] rfl ?_
      exact ih (po0.length - (i + 1)) (by omega) (i + 1) M2 rfl (by omega) hfr2 hE2 hh2
    · rw [e9, fA_of (va_up_self _ _ _)]
      intro q hq
      rw [upd_o (by omega)]
      exact hh q hq
set_option maxHeartbeats 4000000 in
set_option maxRecDepth 100000 in
theorem c_pAnew {κ : hz_C} {z : Nat} {M : hz_M} {B : Nat} (hk0 : md_k B M z) (hE0 : mdE M B) {v tip : Nat} {bl : List bk_B} {en : List en_E} (hv : v < 6) (hb : blP bl en tip) (hmn0 : mnB M B v bl en tip) (hcv0 : cvX M B v bl en) {po0 : List po_P} (hpw0 : poW po0) {old : Nat} (hold : old < bl.length) (hp0 : poX (fA M B) (fL M B) v po0) : hz_Mt κ xX12_poolAnew 10 0 0 [.ref B, .int (nI v), .int (nI old)] z M (fun rr z2 M2 => none = rr ∧ z = z2 ∧ mfr B [53, 54, 55, 59] [3, 4, 5, 6, 8, 9, 43, 44, 45, 46, 47, 48, 49, 50, 52, 54, 55, 56, 57, 58, 59, 60, 61, 62] M M2 ∧ mdE M2 B ∧ agV M M2 B v ∧ cvK M M2 B v bl en ∧ poX (fA M2 B) (fL M2 B) v (pnS bl en tip old po0)) := by
  refine hz_ent (lo := [(0, .ref B), (1, .int (nI v)), (2, .int (nI old))]) (by decide) (Nat.le_of_ble_eq_true rfl) rfl ?_
  obtain ⟨⟨fs, hO, hF⟩, -, -, h8, hz⟩ := id hk0
  refine hz_aloadn (pc := 0) 0 (hz_dec kX12_poolAnew 0 rfl) rfl ?_
  refine hz_get (pc := 1) (v := .ref (B + 58)) (hz_dec kX12_poolAnew 1 rfl) fo_X12_193 hO h8 (by omega) (hF.2 67 (by decide) (by decide)) ?_
  refine hz_iloadn (pc := 4) 1 (hz_dec kX12_poolAnew 2 rfl) rfl ?_
  refine hz_iald (pc := 5) (j := v) (hz_dec kX12_poolAnew 3 rfl) hE0.a58 (by omega) (by omega) rfl (by omega) (by decide) ?_
  refine hz_eqi (pc := 6) hp0.1 ?_
  refine hz_istoren (pc := 6) (i := 3) (lo2 := [(3, .int (nI (po0.length))), (0, .ref B), (1, .int (nI v)), (2, .int (nI old))]) (hz_dec kX12_poolAnew 4 rfl) rfl (by decide) rfl ?_
  refine hz_iconst (pc := 7) (v := nI 0) (hz_dec kX12_poolAnew 5 rfl) (by decide) ?_
  refine hz_istore (pc := 8) (i := 4) (lo2 := [(4, .int (nI 0)), (3, .int (nI (po0.length))), (0, .ref B), (1, .int (nI v)), (2, .int (nI old))]) (hz_dec kX12_poolAnew 6 rfl) (by decide) rfl ?_
  refine hz_pick (pc := 10) [0, 1, 2, 3, 4] rfl ?_
  exact c_pa0 hk0 hE0 hv hb hmn0 hcv0 hpw0 hold hp0 po0.length 0 M rfl (Nat.zero_le _) (mfr.rf ⟨fs, hO, hF⟩) hE0 (fun q hq => absurd hq (by omega))
