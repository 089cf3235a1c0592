/-! choosing the greatest fees: both sides -/
def cgN (po : List po_P) : Nat := min 7 po.length
def cgF (fee : Nat → Int64) (n : Nat) : Nat → Int64
  | 0 => 0
  | m + 1 => cgF fee n m + fee (cgK fee n m)
set_option maxHeartbeats 4000000 in
set_option maxRecDepth 100000 in
theorem c_cg_o {κ : hz_C} {z nb v : Nat} {M : hz_M} (hnb : 63 ≤ nb) (hnbz : nb + 34 ≤ z) {up nx fu rc rf : Int32} (hn : M nb = ndO nb (nI v) up nx fu rc rf) {po : List po_P} (hp : plR M nb po) (hp16 : po.length ≤ 16) : ∀ j m ch, j = cgN po - m → m ≤ cgN po → (∀ i, i < m → ch i = nI (cgK (poV po) po.length i)) → hz_W κ xX6_chooseGreatest 0 0 0 (fun r z2 M2 => some (.int (nI (cgN po))) = r ∧ z = z2 ∧ ∃ ch : Nat → Int32, (∀ i, i < cgN po → ch i = nI (cgK (poV po) po.length i)) ∧ va_up M (nb + 14) (.inl (0, 7, .inl ch)) = M2) 0 0 4 [(1, .int (nI m)), (2, .int (nI (cgU (poV po) po.length m))), (0, .ref nb)] [] z (va_up M (nb + 14) (.inl (0, 7, .inl ch))) := by
  intro j
  induction j using Nat.strongRecOn with
  | ind j ih =>
  intro m ch hj hm hch
  obtain ⟨hp1, ff, hff, hfx⟩ := id hp
  have hpO := hp1.1
  rw [List.length_map] at hpO
  have hn1 : (va_up M (nb + 14) (.inl (0, 7, .inl ch))) nb = ndO nb (nI v) up nx fu rc rf := hz_mne hn (by omega)
  have hp2 : plR (va_up M (nb + 14) (.inl (0, 7, .inl ch))) nb po := hp.fr (fun q q1 q2 => va_up_ne _ _ (by omega))
  have hpO1 := hp2.1.1
  rw [List.length_map] at hpO1
  have hNm : cgN po = min 7 po.length := rfl
  refine hz_iloadn (pc := 4) 0 (hz_dec kX6_chooseGreatest 4 rfl) rfl ?_
  refine hz_bipush (pc := 5) (v := nI 7) (hz_dec kX6_chooseGreatest 5 rfl) (by decide) ?_
  refine hz_n_ge (pc := 7) (tgt := 103) (hz_dec kX6_chooseGreatest 6 rfl) (by decide) (by omega) (by omega) (fun h1 => ?_) (fun h1 => ?_)
  · skip
    have e : m = cgN po := by omega
    refine hz_iloadn (pc := 103) 0 (hz_dec kX6_chooseGreatest 59 rfl) rfl ?_
    exact hz_iret (pc := 104) (hz_dec kX6_chooseGreatest 60 rfl) rfl ⟨by rw [e], rfl, ch, fun i hi => hch i (by omega), rfl⟩
  · skip
    refine hz_iloadn (pc := 10) 0 (hz_dec kX6_chooseGreatest 7 rfl) rfl ?_
    refine hz_aloadn (pc := 11) 2 (hz_dec kX6_chooseGreatest 8 rfl) rfl ?_
    refine hz_get (pc := 12) (hz_dec kX6_chooseGreatest 9 rfl) fo_X6_35 hn1 (by omega) (by omega) rfl ?_
    refine hz_get (pc := 15) (hz_dec kX6_chooseGreatest 10 rfl) fo_X6_88 hpO1 (by omega) (by omega) rfl ?_
    refine hz_n_ge (pc := 18) (tgt := 103) (hz_dec kX6_chooseGreatest 11 rfl) (by decide) (by omega) (by omega) (fun h2 => ?_) (fun h2 => ?_)
    · skip
      have e : m = cgN po := by omega
      refine hz_iloadn (pc := 103) 0 (hz_dec kX6_chooseGreatest 59 rfl) rfl ?_
      exact hz_iret (pc := 104) (hz_dec kX6_chooseGreatest 60 rfl) rfl ⟨by rw [e], rfl, ch, fun i hi => hch i (by omega), rfl⟩
    · skip
      refine hz_iconst (pc := 21) (v := (-1)) (hz_dec kX6_chooseGreatest 12 rfl) (by decide) ?_
      refine hz_istoren (pc := 22) (i := 3) (lo2 := [(3, .int (-1)), (1, .int (nI m)), (2, .int (nI (cgU (poV po) po.length m))), (0, .ref nb)]) (hz_dec kX6_chooseGreatest 13 rfl) rfl (by decide) rfl ?_
      refine hz_iconst (pc := 23) (v := nI 0) (hz_dec kX6_chooseGreatest 14 rfl) (by decide) ?_
      refine hz_istore (pc := 24) (i := 4) (lo2 := [(4, .int (nI 0)), (3, .int (-1)), (1, .int (nI m)), (2, .int (nI (cgU (poV po) po.length m))), (0, .ref nb)]) (hz_dec kX6_chooseGreatest 15 rfl) (by decide) rfl ?_
      refine hz_pick (pc := 26) [0, 1, 2, 3, 4] rfl ?_
      refine c_cg_i hnb hnbz hn1 hp2 hp16 (m := m) (by omega) ?_ po.length 0 rfl (by omega)
      have hck := cg_k (fee := poV po) (show m < po.length by omega)
      refine hz_iloadn (pc := 77) 0 (hz_dec kX6_chooseGreatest 43 rfl) rfl ?_
      refine hz_z_ge (pc := 78) (tgt := 84) (hz_dec kX6_chooseGreatest 44 rfl) (by decide) (by omega) ?_
      refine hz_iloadn (pc := 84) 2 (hz_dec kX6_chooseGreatest 46 rfl) rfl ?_
      refine hz_iconst (pc := 85) (v := nI 1) (hz_dec kX6_chooseGreatest 47 rfl) (by decide) ?_
      refine hz_iloadn (pc := 86) 0 (hz_dec kX6_chooseGreatest 48 rfl) rfl ?_
      refine hz_ishl (pc := 87) (hz_dec kX6_chooseGreatest 49 rfl) ?_
      refine hz_ior (pc := 88) (hz_dec kX6_chooseGreatest 50 rfl) ?_
      refine hz_eqi (pc := 89) (show _ = nI (cgU (poV po) po.length (m + 1)) by rw [shl_nI _ (by omega), or_n, Nat.one_mul]; rfl) ?_
      refine hz_istoren (pc := 89) (i := 2) (lo2 := [(2, .int (nI (cgU (poV po) po.length (m + 1)))), (3, .int (nI (cgK (poV po) po.length m))), (1, .int (nI m)), (0, .ref nb)]) (hz_dec kX6_chooseGreatest 51 rfl) rfl (by decide) rfl ?_
      refine hz_aloadn (pc := 90) 3 (hz_dec kX6_chooseGreatest 52 rfl) rfl ?_
      refine hz_get (pc := 91) (hz_dec kX6_chooseGreatest 53 rfl) fo_X6_43 hn1 (by omega) (by omega) rfl ?_
      refine hz_iloadn (pc := 94) 2 (hz_dec kX6_chooseGreatest 54 rfl) rfl ?_
      refine hz_iloadn (pc := 95) 1 (hz_dec kX6_chooseGreatest 55 rfl) rfl ?_
      refine hz_iast (pc := 96) (j := m) (hz_dec kX6_chooseGreatest 56 rfl) (va_up_self _ _ _) (by omega) (by omega) rfl (by omega) (by omega) ?_
      refine hz_incN (pc := 97) (i := 1) (lo2 := [(1, .int (nI (m + 1))), (2, .int (nI (cgU (poV po) po.length (m + 1)))), (3, .int (nI (cgK (poV po) po.length m))), (0, .ref nb)]) 2 (hz_dec kX6_chooseGreatest 57 rfl) rfl (by decide) rfl ?_
      refine hz_goto (pc := 100) (tgt := 4) (hz_dec kX6_chooseGreatest 58 rfl) (by decide) ?_
      refine hz_mem (pc := 4) (M2 := (va_up M (nb + 14) (.inl (0, 7, .inl (upd ch m (nI (cgK (poV po) po.length m))))))) (bx_uu _ _ _ _) ?_
      refine hz_pick (pc := 4) [0, 1, 3] rfl ?_
      refine ih (cgN po - (m + 1)) (by omega) (m + 1) _ rfl (by omega) (fun i hi => ?_)
      rcases (show i = m ∨ i < m by omega) with e | c
      · rw [e]; exact upd_s
      · exact (upd_o (by omega)).trans (hch i c)
set_option maxHeartbeats 4000000 in
set_option maxRecDepth 100000 in
theorem c_cg {κ : hz_C} {z nb v : Nat} {M : hz_M} (hnb : 63 ≤ nb) (hnbz : nb + 34 ≤ z) {up nx fu rc rf : Int32} (hn : M nb = ndO nb (nI v) up nx fu rc rf) {po : List po_P} (hp : plR M nb po) (hp16 : po.length ≤ 16) {g14 : Nat → Int32} (h14 : M (nb + 14) = .inl (0, 7, .inl g14)) : hz_Mt κ xX6_chooseGreatest 0 0 0 [.ref nb] z M (fun r z2 M2 => some (.int (nI (cgN po))) = r ∧ z = z2 ∧ ∃ ch : Nat → Int32, (∀ i, i < cgN po → ch i = nI (cgK (poV po) po.length i)) ∧ va_up M (nb + 14) (.inl (0, 7, .inl ch)) = M2) := by
  refine hz_ent (lo := [(0, .ref nb)]) (by decide) (Nat.le_of_ble_eq_true rfl) rfl ?_
  refine hz_iconst (pc := 0) (v := nI 0) (hz_dec kX6_chooseGreatest 0 rfl) (by decide) ?_
  refine hz_istoren (pc := 1) (i := 1) (lo2 := [(1, .int (nI 0)), (0, .ref nb)]) (hz_dec kX6_chooseGreatest 1 rfl) rfl (by decide) rfl ?_
  refine hz_iconst (pc := 2) (v := nI 0) (hz_dec kX6_chooseGreatest 2 rfl) (by decide) ?_
  refine hz_istoren (pc := 3) (i := 2) (lo2 := [(2, .int (nI 0)), (1, .int (nI 0)), (0, .ref nb)]) (hz_dec kX6_chooseGreatest 3 rfl) rfl (by decide) rfl ?_
  refine hz_pick (pc := 4) [1, 0, 2] rfl ?_
  refine hz_mem (hz_upid h14).symm ?_
  exact c_cg_o hnb hnbz hn hp hp16 (cgN po) 0 g14 rfl (by omega) (fun i hi => absurd hi (by omega))
set_option maxHeartbeats 4000000 in
set_option maxRecDepth 100000 in
theorem c_ra_i {κ : hz_C} {z B : Nat} (h8 : 8 ≤ B) (hz : B + 88 ≤ z) {v : Nat} (hv6 : v < 6) {N : nd_N} (hp16 : (ksP N.1).length ≤ 16) {sd : Int64} {tm : Int32} {P : hz_P} {M0 : hz_M} (hp : poX (fA M0 B) (fL M0 B) v (ksP N.1)) {M : hz_M} (hfr : mfr B [] [86, 87] M0 M) (hE : mdE M B) {m : Nat} (hm : m < (ksP N.1).length) (ht : (∀ k, k < 16 → fA M B 86 k = hz_b ((cgL (poV (ksP N.1)) (ksP N.1).length m).elem k))) (K : hz_W κ xX12_assemble 8 0 0 P 0 0 160 [(10, .int (nI (cgK (poV (ksP N.1)) (ksP N.1).length m))), (7, .int (nI m)), (8, .long (cgF (poV (ksP N.1)) (ksP N.1).length m)), (6, .int (nI (ksT N.1))), (0, .ref B), (1, .int (nI v)), (2, .long sd), (4, .int tm)] [] z M) : ∀ j k, j = (ksP N.1).length - k → k ≤ (ksP N.1).length → hz_W κ xX12_assemble 8 0 0 P 0 0 96 [(11, .int (nI k)), (10, .int (pvI (cgB (poV (ksP N.1)) (cgL (poV (ksP N.1)) (ksP N.1).length m) k))), (7, .int (nI m)), (8, .long (cgF (poV (ksP N.1)) (ksP N.1).length m)), (6, .int (nI (ksT N.1))), (0, .ref B), (1, .int (nI v)), (2, .long sd), (4, .int tm)] [] z M := by
  intro j
  induction j using Nat.strongRecOn with
  | ind j ih =>
  intro k hj hk
  obtain ⟨fs, hO, hF⟩ := id hfr.2.1
  have hpM : poX (fA M B) (fL M B) v (ksP N.1) := hp.mf hfr rfl
  have hck := cg_k (fee := poV (ksP N.1)) hm
  refine hz_iload (pc := 96) 0 (hz_dec kX12_assemble 53 rfl) rfl ?_
  refine hz_aloadn (pc := 98) 5 (hz_dec kX12_assemble 54 rfl) rfl ?_
  refine hz_get (pc := 99) (v := .ref (B + 58)) (hz_dec kX12_assemble 55 rfl) fo_X12_193 hO h8 (by omega) (hF.2 67 (by decide) (by decide)) ?_
  refine hz_iloadn (pc := 102) 6 (hz_dec kX12_assemble 56 rfl) rfl ?_
  refine hz_iald (pc := 103) (j := v) (hz_dec kX12_assemble 57 rfl) hE.a58 (by omega) (by omega) rfl (by omega) (by decide) ?_
  refine hz_eqi (pc := 104) hpM.1 ?_
  refine hz_n_ge (pc := 104) (tgt := 160) (hz_dec kX12_assemble 58 rfl) (by decide) (by omega) (by omega) (fun h1 => ?_) (fun h1 => ?_)
  · skip
    have e : k = (ksP N.1).length := by omega
    have e2 : pvI (cgB (poV (ksP N.1)) (cgL (poV (ksP N.1)) (ksP N.1).length m) k) = nI (cgK (poV (ksP N.1)) (ksP N.1).length m) := by rw [e, hck.1]; rfl
    rw [e2]
    refine hz_pick (pc := 160) [1, 2, 3, 4, 5, 6, 7, 8] rfl ?_
    exact K
  · skip
    refine hz_aloadn (pc := 107) 5 (hz_dec kX12_assemble 59 rfl) rfl ?_
    refine hz_get (pc := 108) (v := .ref (B + 86)) (hz_dec kX12_assemble 60 rfl) fo_X12_283 hO h8 (by omega) (hF.2 104 (by decide) (by decide)) ?_
    refine hz_iload (pc := 111) 0 (hz_dec kX12_assemble 61 rfl) rfl ?_
    refine hz_zald (pc := 113) (j := k) (hz_dec kX12_assemble 62 rfl) hE.a86 (by omega) (by omega) rfl (by omega) (by decide) ?_
    refine hz_eqi (pc := 114) (ht k (by omega)) ?_
    refine hz_if_ne (pc := 114) (tgt := 154) (hz_dec kX12_assemble 63 rfl) (by decide) (fun h2 => ?_) (fun h2 => ?_)
    · skip
      have eu := hz_b1 h2
      have eb : pvI (cgB (poV (ksP N.1)) (cgL (poV (ksP N.1)) (ksP N.1).length m) (k + 1)) = pvI (cgB (poV (ksP N.1)) (cgL (poV (ksP N.1)) (ksP N.1).length m) k) := by show pvI (if _ then _ else _) = _; rw [if_pos eu]
      refine hz_incN (pc := 154) (i := 11) (lo2 := [(11, .int (nI (k + 1))), (10, .int (pvI (cgB (poV (ksP N.1)) (cgL (poV (ksP N.1)) (ksP N.1).length m) k))), (7, .int (nI m)), (8, .long (cgF (poV (ksP N.1)) (ksP N.1).length m)), (6, .int (nI (ksT N.1))), (0, .ref B), (1, .int (nI v)), (2, .long sd), (4, .int tm)]) 0 (hz_dec kX12_assemble 86 rfl) rfl (by decide) rfl ?_
      refine hz_goto (pc := 157) (tgt := 96) (hz_dec kX12_assemble 87 rfl) (by decide) ?_
      refine hz_pick (pc := 96) [0, 1, 2, 3, 4, 5, 6, 7, 8] rfl ?_
      have q := ih ((ksP N.1).length - (k + 1)) (by omega) (k + 1) rfl (by omega)
      rw [eb] at q
      exact q
    · skip
      have eu := hz_b0 h2
      have en : ¬ (cgL (poV (ksP N.1)) (ksP N.1).length m).elem k = true := by rw [eu]; decide
      refine hz_iload (pc := 117) 1 (hz_dec kX12_assemble 64 rfl) rfl ?_
      refine hz_if_lt (pc := 119) (tgt := 150) (hz_dec kX12_assemble 65 rfl) (by decide) (fun h3 => ?_) (fun h3 => ?_)
      · skip
        have eg : cgB (poV (ksP N.1)) (cgL (poV (ksP N.1)) (ksP N.1).length m) k = none := by cases g : cgB (poV (ksP N.1)) (cgL (poV (ksP N.1)) (ksP N.1).length m) k with
          | none => rfl
          | some b => rw [g] at h3; have hb := (cgB_s k b g).1; exact absurd h3 (by show ¬ nI b < 0; rw [Int32.lt_iff_toInt_lt, nI_toInt (by omega)]; show ¬ (b : Int) < 0; omega)
        have eb : pvI (cgB (poV (ksP N.1)) (cgL (poV (ksP N.1)) (ksP N.1).length m) (k + 1)) = nI k := by show pvI (if _ then _ else match cgB _ _ k with | none => _ | some b => _) = _; rw [if_neg en, eg]; rfl
        refine hz_iload (pc := 150) 0 (hz_dec kX12_assemble 84 rfl) rfl ?_
        refine hz_istore (pc := 152) (i := 10) (lo2 := [(10, .int (nI k)), (11, .int (nI k)), (7, .int (nI m)), (8, .long (cgF (poV (ksP N.1)) (ksP N.1).length m)), (6, .int (nI (ksT N.1))), (0, .ref B), (1, .int (nI v)), (2, .long sd), (4, .int tm)]) (hz_dec kX12_assemble 85 rfl) (by decide) rfl ?_
        refine hz_incN (pc := 154) (i := 11) (lo2 := [(11, .int (nI (k + 1))), (10, .int (nI k)), (7, .int (nI m)), (8, .long (cgF (poV (ksP N.1)) (ksP N.1).length m)), (6, .int (nI (ksT N.1))), (0, .ref B), (1, .int (nI v)), (2, .long sd), (4, .int tm)]) 1 (hz_dec kX12_assemble 86 rfl) rfl (by decide) rfl ?_
        refine hz_goto (pc := 157) (tgt := 96) (hz_dec kX12_assemble 87 rfl) (by decide) ?_
        refine hz_pick (pc := 96) [0, 1, 2, 3, 4, 5, 6, 7, 8] rfl ?_
        have q := ih ((ksP N.1).length - (k + 1)) (by omega) (k + 1) rfl (by omega)
        rw [eb] at q
        exact q
      · skip
        obtain ⟨b, eg⟩ : ∃ b, cgB (poV (ksP N.1)) (cgL (poV (ksP N.1)) (ksP N.1).length m) k = some b := by cases g : cgB (poV (ksP N.1)) (cgL (poV (ksP N.1)) (ksP N.1).length m) k with
          | none => rw [g] at h3; exact absurd (by decide) h3
          | some b => exact ⟨b, rfl⟩
        have hb := (cgB_s k b eg).1
        have e3 : pvI (cgB (poV (ksP N.1)) (cgL (poV (ksP N.1)) (ksP N.1).length m) k) = nI b := by rw [eg]; rfl
        rw [e3]
        refine hz_aloadn (pc := 122) 5 (hz_dec kX12_assemble 66 rfl) rfl ?_
        refine hz_get (pc := 123) (v := .ref (B + 57)) (hz_dec kX12_assemble 67 rfl) fo_X12_190 hO h8 (by omega) (hF.2 66 (by decide) (by decide)) ?_
        refine hz_bipush (pc := 126) (v := nI 16) (hz_dec kX12_assemble 68 rfl) (by decide) ?_
        refine hz_iloadn (pc := 128) 6 (hz_dec kX12_assemble 69 rfl) rfl ?_
        refine hz_mulN (pc := 129) (hz_dec kX12_assemble 70 rfl) ?_
        refine hz_iload (pc := 130) 0 (hz_dec kX12_assemble 71 rfl) rfl ?_
        refine hz_addN (pc := 132) (hz_dec kX12_assemble 72 rfl) ?_
        refine hz_lald (pc := 133) (j := (16 * v) + k) (hz_dec kX12_assemble 73 rfl) hE.a57 (by omega) (by omega) rfl (by omega) (by decide) ?_
        refine hz_eql (pc := 134) (hpM.2 k h1).2.2.1 ?_
        refine hz_aloadn (pc := 134) 5 (hz_dec kX12_assemble 74 rfl) rfl ?_
        refine hz_get (pc := 135) (v := .ref (B + 57)) (hz_dec kX12_assemble 75 rfl) fo_X12_190 hO h8 (by omega) (hF.2 66 (by decide) (by decide)) ?_
        refine hz_bipush (pc := 138) (v := nI 16) (hz_dec kX12_assemble 76 rfl) (by decide) ?_
        refine hz_iloadn (pc := 140) 6 (hz_dec kX12_assemble 77 rfl) rfl ?_
        refine hz_mulN (pc := 141) (hz_dec kX12_assemble 78 rfl) ?_
        refine hz_iload (pc := 142) 1 (hz_dec kX12_assemble 79 rfl) rfl ?_
        refine hz_addN (pc := 144) (hz_dec kX12_assemble 80 rfl) ?_
        refine hz_lald (pc := 145) (j := (16 * v) + b) (hz_dec kX12_assemble 81 rfl) hE.a57 (by omega) (by omega) rfl (by omega) (by decide) ?_
        refine hz_eql (pc := 146) (hpM.2 b (by omega)).2.2.1 ?_
        refine hz_lcmp (pc := 146) (hz_dec kX12_assemble 82 rfl) ?_
        refine hz_if_le (pc := 147) (tgt := 154) (hz_dec kX12_assemble 83 rfl) (by decide) (fun h4 => ?_) (fun h4 => ?_)
        · skip
          have eb : pvI (cgB (poV (ksP N.1)) (cgL (poV (ksP N.1)) (ksP N.1).length m) (k + 1)) = nI b := by show pvI (if _ then _ else match cgB _ _ k with | none => _ | some b => _) = _; rw [if_neg en, eg]; show pvI (if poV (ksP N.1) b < poV (ksP N.1) k then some k else some b) = _; rw [if_neg (Int64.not_lt.mpr ((lg_cmp_le _ _).mp h4))]; rfl
          refine hz_incN (pc := 154) (i := 11) (lo2 := [(11, .int (nI (k + 1))), (10, .int (nI b)), (7, .int (nI m)), (8, .long (cgF (poV (ksP N.1)) (ksP N.1).length m)), (6, .int (nI (ksT N.1))), (0, .ref B), (1, .int (nI v)), (2, .long sd), (4, .int tm)]) 0 (hz_dec kX12_assemble 86 rfl) rfl (by decide) rfl ?_
          refine hz_goto (pc := 157) (tgt := 96) (hz_dec kX12_assemble 87 rfl) (by decide) ?_
          refine hz_pick (pc := 96) [0, 1, 2, 3, 4, 5, 6, 7, 8] rfl ?_
          have q := ih ((ksP N.1).length - (k + 1)) (by omega) (k + 1) rfl (by omega)
          rw [eb] at q
          exact q
        · skip
          have eb : pvI (cgB (poV (ksP N.1)) (cgL (poV (ksP N.1)) (ksP N.1).length m) (k + 1)) = nI k := by show pvI (if _ then _ else match cgB _ _ k with | none => _ | some b => _) = _; rw [if_neg en, eg]; show pvI (if poV (ksP N.1) b < poV (ksP N.1) k then some k else some b) = _; rw [if_pos (Int64.not_le.mp (fun c => h4 ((lg_cmp_le _ _).mpr c)))]; rfl
          refine hz_iload (pc := 150) 0 (hz_dec kX12_assemble 84 rfl) rfl ?_
          refine hz_istore (pc := 152) (i := 10) (lo2 := [(10, .int (nI k)), (11, .int (nI k)), (7, .int (nI m)), (8, .long (cgF (poV (ksP N.1)) (ksP N.1).length m)), (6, .int (nI (ksT N.1))), (0, .ref B), (1, .int (nI v)), (2, .long sd), (4, .int tm)]) (hz_dec kX12_assemble 85 rfl) (by decide) rfl ?_
          refine hz_incN (pc := 154) (i := 11) (lo2 := [(11, .int (nI (k + 1))), (10, .int (nI k)), (7, .int (nI m)), (8, .long (cgF (poV (ksP N.1)) (ksP N.1).length m)), (6, .int (nI (ksT N.1))), (0, .ref B), (1, .int (nI v)), (2, .long sd), (4, .int tm)]) 1 (hz_dec kX12_assemble 86 rfl) rfl (by decide) rfl ?_
          refine hz_goto (pc := 157) (tgt := 96) (hz_dec kX12_assemble 87 rfl) (by decide) ?_
          refine hz_pick (pc := 96) [0, 1, 2, 3, 4, 5, 6, 7, 8] rfl ?_
          have q := ih ((ksP N.1).length - (k + 1)) (by omega) (k + 1) rfl (by omega)
          rw [eb] at q
          exact q
set_option maxHeartbeats 4000000 in
set_option maxRecDepth 100000 in
theorem c_ra_o {κ : hz_C} {z B : Nat} (h8 : 8 ≤ B) (hz : B + 88 ≤ z) {v : Nat} (hv6 : v < 6) {N : nd_N} (hp16 : (ksP N.1).length ≤ 16) {sd : Int64} {tm : Int32} {P : hz_P} {M0 : hz_M} (hp : poX (fA M0 B) (fL M0 B) v (ksP N.1)) (K : ∀ M, mfr B [] [86, 87] M0 M → mdE M B → (∀ i, i < cgN (ksP N.1) → fA M B 87 i = nI (cgK (poV (ksP N.1)) (ksP N.1).length i)) → hz_W κ xX12_assemble 8 0 0 P 0 0 200 [(7, .int (nI (cgN (ksP N.1)))), (8, .long (cgF (poV (ksP N.1)) (ksP N.1).length (cgN (ksP N.1)))), (6, .int (nI (ksT N.1))), (0, .ref B), (1, .int (nI v)), (2, .long sd), (4, .int tm)] [] z M) : ∀ j m M, j = cgN (ksP N.1) - m → m ≤ cgN (ksP N.1) → mfr B [] [86, 87] M0 M → mdE M B → (∀ k, k < 16 → fA M B 86 k = hz_b ((cgL (poV (ksP N.1)) (ksP N.1).length m).elem k)) → (∀ i, i < m → fA M B 87 i = nI (cgK (poV (ksP N.1)) (ksP N.1).length i)) → hz_W κ xX12_assemble 8 0 0 P 0 0 72 [(7, .int (nI m)), (8, .long (cgF (poV (ksP N.1)) (ksP N.1).length m)), (6, .int (nI (ksT N.1))), (0, .ref B), (1, .int (nI v)), (2, .long sd), (4, .int tm)] [] z M := by
  intro j
  induction j using Nat.strongRecOn with
  | ind j ih =>
  intro m M hj hm hfr hE ht hpk
  obtain ⟨fs, hO, hF⟩ := id hfr.2.1
  have hpM : poX (fA M B) (fL M B) v (ksP N.1) := hp.mf hfr rfl
  have hNm : cgN (ksP N.1) = min 7 (ksP N.1).length := rfl
  refine hz_iload (pc := 72) 0 (hz_dec kX12_assemble 40 rfl) rfl ?_
  refine hz_bipush (pc := 74) (v := nI 7) (hz_dec kX12_assemble 41 rfl) (by decide) ?_
  refine hz_n_ge (pc := 76) (tgt := 200) (hz_dec kX12_assemble 42 rfl) (by decide) (by omega) (by omega) (fun h1 => ?_) (fun h1 => ?_)
  · skip
    have e : m = cgN (ksP N.1) := by omega
    subst e
    refine hz_pick (pc := 200) [0, 1, 2, 3, 4, 5, 6] rfl ?_
    exact K M hfr hE hpk
  · skip
    refine hz_iload (pc := 79) 0 (hz_dec kX12_assemble 43 rfl) rfl ?_
    refine hz_aloadn (pc := 81) 3 (hz_dec kX12_assemble 44 rfl) rfl ?_
    refine hz_get (pc := 82) (v := .ref (B + 58)) (hz_dec kX12_assemble 45 rfl) fo_X12_193 hO h8 (by omega) (hF.2 67 (by decide) (by decide)) ?_
    refine hz_iloadn (pc := 85) 4 (hz_dec kX12_assemble 46 rfl) rfl ?_
    refine hz_iald (pc := 86) (j := v) (hz_dec kX12_assemble 47 rfl) hE.a58 (by omega) (by omega) rfl (by omega) (by decide) ?_
    refine hz_eqi (pc := 87) hpM.1 ?_
    refine hz_n_ge (pc := 87) (tgt := 200) (hz_dec kX12_assemble 48 rfl) (by decide) (by omega) (by omega) (fun h2 => ?_) (fun h2 => ?_)
    · skip
      have e : m = cgN (ksP N.1) := by omega
      subst e
      refine hz_pick (pc := 200) [0, 1, 2, 3, 4, 5, 6] rfl ?_
      exact K M hfr hE hpk
    · skip
      refine hz_iconst (pc := 90) (v := (-1)) (hz_dec kX12_assemble 49 rfl) (by decide) ?_
      refine hz_istore (pc := 91) (i := 10) (lo2 := [(10, .int (-1)), (7, .int (nI m)), (8, .long (cgF (poV (ksP N.1)) (ksP N.1).length m)), (6, .int (nI (ksT N.1))), (0, .ref B), (1, .int (nI v)), (2, .long sd), (4, .int tm)]) (hz_dec kX12_assemble 50 rfl) (by decide) rfl ?_
      refine hz_iconst (pc := 93) (v := nI 0) (hz_dec kX12_assemble 51 rfl) (by decide) ?_
      refine hz_istore (pc := 94) (i := 11) (lo2 := [(11, .int (nI 0)), (10, .int (-1)), (7, .int (nI m)), (8, .long (cgF (poV (ksP N.1)) (ksP N.1).length m)), (6, .int (nI (ksT N.1))), (0, .ref B), (1, .int (nI v)), (2, .long sd), (4, .int tm)]) (hz_dec kX12_assemble 52 rfl) (by decide) rfl ?_
      refine hz_pick (pc := 96) [0, 1, 2, 3, 4, 5, 6, 7, 8] rfl ?_
      refine c_ra_i h8 hz hv6 hp16 hp hfr hE (m := m) (by omega) ht ?_ (ksP N.1).length 0 rfl (by omega)
      have hck := cg_k (fee := poV (ksP N.1)) (show m < (ksP N.1).length by omega)
      refine hz_aloadn (pc := 160) 4 (hz_dec kX12_assemble 88 rfl) rfl ?_
      refine hz_get (pc := 161) (v := .ref (B + 86)) (hz_dec kX12_assemble 89 rfl) fo_X12_283 hO h8 (by omega) (hF.2 104 (by decide) (by decide)) ?_
      refine hz_iload (pc := 164) 0 (hz_dec kX12_assemble 90 rfl) rfl ?_
      refine hz_iconst (pc := 166) (v := nI 1) (hz_dec kX12_assemble 91 rfl) (by decide) ?_
      refine hz_zast (pc := 167) (j := cgK (poV (ksP N.1)) (ksP N.1).length m) (hz_dec kX12_assemble 92 rfl) hE.a86 (by omega) (by omega) rfl (by omega) (by decide) (Or.inr rfl) ?_
      refine hz_aloadn (pc := 168) 4 (hz_dec kX12_assemble 93 rfl) rfl ?_
      refine hz_get (pc := 169) (v := .ref (B + 87)) (hz_dec kX12_assemble 94 rfl) fo_X12_286 (hz_mne hO (by omega)) h8 (by omega) (hF.2 105 (by decide) (by decide)) ?_
      refine hz_iload (pc := 172) 1 (hz_dec kX12_assemble 95 rfl) rfl ?_
      refine hz_iload (pc := 174) 0 (hz_dec kX12_assemble 96 rfl) rfl ?_
      refine hz_iast (pc := 176) (j := m) (hz_dec kX12_assemble 97 rfl) (hz_mne hE.a87 (by omega)) (by omega) (by omega) rfl (by omega) (by decide) ?_
      refine hz_lload (pc := 177) 2 (hz_dec kX12_assemble 98 rfl) rfl ?_
      refine hz_aloadn (pc := 179) 4 (hz_dec kX12_assemble 99 rfl) rfl ?_
      refine hz_get (pc := 180) (v := .ref (B + 57)) (hz_dec kX12_assemble 100 rfl) fo_X12_190 (hz_mne (hz_mne hO (by omega)) (by omega)) h8 (by omega) (hF.2 66 (by decide) (by decide)) ?_
      refine hz_bipush (pc := 183) (v := nI 16) (hz_dec kX12_assemble 101 rfl) (by decide) ?_
      refine hz_iloadn (pc := 185) 5 (hz_dec kX12_assemble 102 rfl) rfl ?_
      refine hz_mulN (pc := 186) (hz_dec kX12_assemble 103 rfl) ?_
      refine hz_iload (pc := 187) 0 (hz_dec kX12_assemble 104 rfl) rfl ?_
      refine hz_addN (pc := 189) (hz_dec kX12_assemble 105 rfl) ?_
      refine hz_lald (pc := 190) (j := (16 * v) + (cgK (poV (ksP N.1)) (ksP N.1).length m)) (hz_dec kX12_assemble 106 rfl) (hz_mne (hz_mne hE.a57 (by omega)) (by omega)) (by omega) (by omega) rfl (by omega) (by decide) ?_
      refine hz_eql (pc := 191) (hpM.2 (cgK (poV (ksP N.1)) (ksP N.1).length m) hck.2.1).2.2.1 ?_
      refine hz_ladd (pc := 191) (hz_dec kX12_assemble 107 rfl) ?_
      refine hz_lstore (pc := 192) (i := 8) (lo2 := [(8, .long ((cgF (poV (ksP N.1)) (ksP N.1).length m) + (poV (ksP N.1) (cgK (poV (ksP N.1)) (ksP N.1).length m)))), (10, .int (nI (cgK (poV (ksP N.1)) (ksP N.1).length m))), (7, .int (nI m)), (6, .int (nI (ksT N.1))), (0, .ref B), (1, .int (nI v)), (2, .long sd), (4, .int tm)]) (hz_dec kX12_assemble 108 rfl) (by decide) rfl ?_
      refine hz_incN (pc := 194) (i := 7) (lo2 := [(7, .int (nI (m + 1))), (8, .long ((cgF (poV (ksP N.1)) (ksP N.1).length m) + (poV (ksP N.1) (cgK (poV (ksP N.1)) (ksP N.1).length m)))), (10, .int (nI (cgK (poV (ksP N.1)) (ksP N.1).length m))), (6, .int (nI (ksT N.1))), (0, .ref B), (1, .int (nI v)), (2, .long sd), (4, .int tm)]) 2 (hz_dec kX12_assemble 109 rfl) rfl (by decide) rfl ?_
      refine hz_goto (pc := 197) (tgt := 72) (hz_dec kX12_assemble 110 rfl) (by decide) ?_
      have hf2 : mfr B [] [86, 87] M0 (va_up (va_up M (B + 86) (.inl (3, 16, .inl (upd (fA M B 86) (cgK (poV (ksP N.1)) (ksP N.1).length m) ((nI (1))))))) (B + 87) (.inl (0, 7, .inl (upd (fA M B 87) m ((nI (cgK (poV (ksP N.1)) (ksP N.1).length m))))))) := (hfr.upA (o := 86) rfl (by decide)).upA (o := 87) rfl (by decide)
      have hE2 : mdE (va_up (va_up M (B + 86) (.inl (3, 16, .inl (upd (fA M B 86) (cgK (poV (ksP N.1)) (ksP N.1).length m) ((nI (1))))))) (B + 87) (.inl (0, 7, .inl (upd (fA M B 87) m ((nI (cgK (poV (ksP N.1)) (ksP N.1).length m))))))) B := (hE.upA (by decide)).upA (by decide)
      refine hz_pick (pc := 72) [0, 1, 3, 4, 5, 6, 7] rfl ?_
      refine ih (cgN (ksP N.1) - (m + 1)) (by omega) (m + 1) _ rfl (by omega) hf2 hE2 (fun k hk => ?_) (fun i hi => ?_)
      · rw [fA_of (hz_mne (va_up_self _ _ _) (by omega)), cgL_el]
        by_cases c : k = cgK (poV (ksP N.1)) (ksP N.1).length m
        · rw [c, upd_s, decide_eq_true rfl, Bool.or_true]; rfl
        · rw [upd_o c, ht k hk, decide_eq_false c, Bool.or_false]
      · rw [fA_of (va_up_self _ _ _)]
        rcases (show i = m ∨ i < m by omega) with e | c
        · rw [e]; exact upd_s
        · exact (upd_o (by omega)).trans (hpk i c)
set_option maxHeartbeats 4000000 in
set_option maxRecDepth 100000 in
theorem c_ra_z {κ : hz_C} {z B : Nat} (h8 : 8 ≤ B) (hz : B + 88 ≤ z) {v : Nat} (hv6 : v < 6) {N : nd_N} (hp16 : (ksP N.1).length ≤ 16) {sd : Int64} {tm : Int32} {P : hz_P} {M0 : hz_M} (hp : poX (fA M0 B) (fL M0 B) v (ksP N.1)) (K : ∀ M, mfr B [] [86, 87] M0 M → mdE M B → (∀ i, i < cgN (ksP N.1) → fA M B 87 i = nI (cgK (poV (ksP N.1)) (ksP N.1).length i)) → hz_W κ xX12_assemble 8 0 0 P 0 0 200 [(7, .int (nI (cgN (ksP N.1)))), (8, .long (cgF (poV (ksP N.1)) (ksP N.1).length (cgN (ksP N.1)))), (6, .int (nI (ksT N.1))), (0, .ref B), (1, .int (nI v)), (2, .long sd), (4, .int tm)] [] z M) : ∀ j k M, j = 16 - k → k ≤ 16 → mfr B [] [86, 87] M0 M → mdE M B → (∀ i, i < k → fA M B 86 i = 0) → hz_W κ xX12_assemble 8 0 0 P 0 0 51 [(10, .int (nI k)), (7, .int (nI 0)), (8, .long (cgF (poV (ksP N.1)) (ksP N.1).length 0)), (6, .int (nI (ksT N.1))), (0, .ref B), (1, .int (nI v)), (2, .long sd), (4, .int tm)] [] z M := by
  intro j
  induction j using Nat.strongRecOn with
  | ind j ih =>
  intro k M hj hk hfr hE hz0
  obtain ⟨fs, hO, hF⟩ := id hfr.2.1
  refine hz_iload (pc := 51) 0 (hz_dec kX12_assemble 30 rfl) rfl ?_
  refine hz_bipush (pc := 53) (v := nI 16) (hz_dec kX12_assemble 31 rfl) (by decide) ?_
  refine hz_n_ge (pc := 55) (tgt := 72) (hz_dec kX12_assemble 32 rfl) (by decide) (by omega) (by omega) (fun h1 => ?_) (fun h1 => ?_)
  · skip
    have e : k = 16 := by omega
    refine hz_pick (pc := 72) [1, 2, 3, 4, 5, 6, 7] rfl ?_
    exact c_ra_o h8 hz hv6 hp16 hp K (cgN (ksP N.1)) 0 M rfl (by omega) hfr hE (fun i hi => (hz0 i (by omega)).trans rfl) (fun i hi => absurd hi (by omega))
  · skip
    refine hz_aloadn (pc := 58) 4 (hz_dec kX12_assemble 33 rfl) rfl ?_
    refine hz_get (pc := 59) (v := .ref (B + 86)) (hz_dec kX12_assemble 34 rfl) fo_X12_283 hO h8 (by omega) (hF.2 104 (by decide) (by decide)) ?_
    refine hz_iload (pc := 62) 0 (hz_dec kX12_assemble 35 rfl) rfl ?_
    refine hz_iconst (pc := 64) (v := nI 0) (hz_dec kX12_assemble 36 rfl) (by decide) ?_
    refine hz_zast (pc := 65) (j := k) (hz_dec kX12_assemble 37 rfl) hE.a86 (by omega) (by omega) rfl (by omega) (by decide) (Or.inl rfl) ?_
    refine hz_incN (pc := 66) (i := 10) (lo2 := [(10, .int (nI (k + 1))), (7, .int (nI 0)), (8, .long (cgF (poV (ksP N.1)) (ksP N.1).length 0)), (6, .int (nI (ksT N.1))), (0, .ref B), (1, .int (nI v)), (2, .long sd), (4, .int tm)]) 0 (hz_dec kX12_assemble 38 rfl) rfl (by decide) rfl ?_
    refine hz_goto (pc := 69) (tgt := 51) (hz_dec kX12_assemble 39 rfl) (by decide) ?_
    refine hz_pick (pc := 51) [0, 1, 2, 3, 4, 5, 6, 7] rfl ?_
    refine ih (16 - (k + 1)) (by omega) (k + 1) _ rfl (by omega) (hfr.upA (o := 86) rfl (by decide)) (hE.upA (by decide)) ?_
    rw [fA_of (va_up_self _ _ _)]
    intro i hi
    rcases (show i = k ∨ i < k by omega) with e | c
    · rw [e]; exact upd_s
    · exact (upd_o (by omega)).trans (hz0 i c)
