/-! the reference: copyHash, ask -/
set_option maxHeartbeats 4000000 in
set_option maxRecDepth 100000 in
theorem c_cpH_l {κ : hz_C} {z : Nat} {M0 : hz_M} {B : Nat} (hO_ : md_O M0 B) (hE0 : mdE M0 B) (h8 : 8 ≤ B) (hz : B + 88 ≤ z) {v tip : Nat} {bl : List bk_B} (hv : v < 6) (hnb : bl.length ≤ 128) (hN0 : nbX (fA M0 B) (fL M0 B) v bl tip) {x n : Nat} (hx : x < bl.length) (hn : n < 16) {l : by_L} (hl : l.length = 32 * n) (hg0 : isA (fA M0 B 77) 0 l) : ∀ k i M, k = 32 - i → i ≤ 32 → mfr B [] [77] M0 M → mdE M B → isA (fA M B 77) 0 l → (∀ j, j < i → fA M B 77 (32 * n + j) = lf (haS (bBy bl x)) j) → hz_W κ xX12_copyHash 1 0 0 (fun r z2 M2 => none = r ∧ z = z2 ∧ mfr B [] [77] M0 M2 ∧ mdE M2 B ∧ isA (fA M2 B 77) 0 (l ++ haS (bBy bl x))) 0 0 3 [(4, .int (nI i)), (0, .ref B), (1, .int (nI v)), (2, .int (nI x)), (3, .int (nI n))] [] z M := by
  intro k
  induction k using Nat.strongRecOn with
  | ind k ih =>
  intro i M hk hi hfr hE hl0 h77
  obtain ⟨fs, hO, hF⟩ := id hfr.2.1
  have h30 : isA (fA M B 30) (32 * (128 * v + x)) (haS (bBy bl x)) := by rw [fA_m hfr (by decide) rfl]; exact (hN0.2.2 x hx).2.1
  have h32 := haS_len (bBy bl x)
  refine hz_bytes hE.a30 (by omega) (by omega) (fun hby => ?_)
  refine hz_iload (pc := 3) 0 (hz_dec kX12_copyHash 2 rfl) rfl ?_
  refine hz_bipush (pc := 5) (v := nI 32) (hz_dec kX12_copyHash 3 rfl) (by decide) ?_
  refine hz_n_ge (pc := 7) (tgt := 44) (hz_dec kX12_copyHash 4 rfl) (by decide) (by omega) (by omega) (fun h1 => ?_) (fun h1 => ?_)
  · skip
    have e : i = 32 := by omega
    exact hz_vret (pc := 44) (hz_dec kX12_copyHash 25 rfl) rfl ⟨rfl, rfl, hfr, hE, isA_app hl0 (fun j hj => by rw [Nat.zero_add, hl]; exact h77 j (by omega))⟩
  · skip
    refine hz_aloadn (pc := 10) 1 (hz_dec kX12_copyHash 5 rfl) rfl ?_
    refine hz_get (pc := 11) (v := .ref (B + 77)) (hz_dec kX12_copyHash 6 rfl) fo_X12_252 hO h8 (by omega) (hF.2 90 (by decide) (by decide)) ?_
    refine hz_bipush (pc := 14) (v := nI 32) (hz_dec kX12_copyHash 7 rfl) (by decide) ?_
    refine hz_iloadn (pc := 16) 4 (hz_dec kX12_copyHash 8 rfl) rfl ?_
    refine hz_mulN (pc := 17) (hz_dec kX12_copyHash 9 rfl) ?_
    refine hz_iload (pc := 18) 0 (hz_dec kX12_copyHash 10 rfl) rfl ?_
    refine hz_addN (pc := 20) (hz_dec kX12_copyHash 11 rfl) ?_
    refine hz_aloadn (pc := 21) 1 (hz_dec kX12_copyHash 12 rfl) rfl ?_
    refine hz_get (pc := 22) (v := .ref (B + 30)) (hz_dec kX12_copyHash 13 rfl) fo_X12_101 hO h8 (by omega) (hF.2 32 (by decide) (by decide)) ?_
    refine hz_bipush (pc := 25) (v := nI 32) (hz_dec kX12_copyHash 14 rfl) (by decide) ?_
    refine hz_iloadn (pc := 27) 2 (hz_dec kX12_copyHash 15 rfl) rfl ?_
    refine hz_iloadn (pc := 28) 3 (hz_dec kX12_copyHash 16 rfl) rfl ?_
    refine hz_xS (pc := 29) (As := [.int (nI v), .int (nI x)]) (st := [.int (nI 32), .ref (B + 30), .int (nI ((32 * n) + i)), .ref (B + 77)]) (hz_dec kX12_copyHash 17 rfl) co_X12_419 sc_X12_at0 (c_at0) rfl (by decide) ⟨Nat.le_refl _, Nat.le_refl _⟩ (Nat.le_of_ble_eq_true rfl) rfl ?_
    refine hz_mulN (pc := 32) (hz_dec kX12_copyHash 18 rfl) ?_
    refine hz_iload (pc := 33) 0 (hz_dec kX12_copyHash 19 rfl) rfl ?_
    refine hz_addN (pc := 35) (hz_dec kX12_copyHash 20 rfl) ?_
    refine hz_bald (pc := 36) (j := (32 * (128 * v + x)) + i) (hz_dec kX12_copyHash 21 rfl) hE.a30 (by omega) (by omega) rfl (by omega) (by decide) ?_
    refine hz_bast (pc := 37) (j := (32 * n) + i) (hz_dec kX12_copyHash 22 rfl) hE.a77 (by omega) (by omega) rfl (by omega) (by decide) ?_
    refine hz_incN (pc := 38) (i := 4) (lo2 := [(4, .int (nI (i + 1))), (0, .ref B), (1, .int (nI v)), (2, .int (nI x)), (3, .int (nI n))]) 0 (hz_dec kX12_copyHash 23 rfl) rfl (by decide) rfl ?_
    refine hz_goto (pc := 41) (tgt := 3) (hz_dec kX12_copyHash 24 rfl) (by decide) ?_
    refine hz_pick (pc := 3) [0, 1, 2, 3, 4] rfl ?_
    refine ih (32 - (i + 1)) (by omega) (i + 1) _ rfl (by omega) (hfr.upA (o := 77) rfl (by decide)) (hE.upA (by decide)) ?_ ?_
    · rw [fA_of (va_up_self _ _ _)]
      intro j hj
      rw [upd_o (by omega)]
      exact hl0 j hj
    · rw [fA_of (va_up_self _ _ _)]
      intro j hj
      rcases (show j = i ∨ j < i by omega) with e | c
      · rw [e, upd_s, hby _ (by omega)]; exact h30 i (by omega)
      · rw [upd_o (by omega)]; exact h77 j c
set_option maxHeartbeats 4000000 in
set_option maxRecDepth 100000 in
theorem c_cpH {κ : hz_C} {z : Nat} {M : hz_M} {B : Nat} (hO_ : md_O M B) (hE0 : mdE M B) (h8 : 8 ≤ B) (hz : B + 88 ≤ z) {v tip : Nat} {bl : List bk_B} (hv : v < 6) (hnb : bl.length ≤ 128) (hN0 : nbX (fA M B) (fL M B) v bl tip) {x n : Nat} (hx : x < bl.length) (hn : n < 16) {l : by_L} (hl : l.length = 32 * n) (hg0 : isA (fA M B 77) 0 l) : hz_Mt κ xX12_copyHash 1 0 0 [.ref B, .int (nI v), .int (nI x), .int (nI n)] z M (fun r z2 M2 => none = r ∧ z = z2 ∧ mfr B [] [77] M M2 ∧ mdE M2 B ∧ isA (fA M2 B 77) 0 (l ++ haS (bBy bl x))) := by
  refine hz_ent (lo := [(0, .ref B), (1, .int (nI v)), (2, .int (nI x)), (3, .int (nI n))]) (by decide) (Nat.le_of_ble_eq_true rfl) rfl ?_
  refine hz_iconst (pc := 0) (v := nI 0) (hz_dec kX12_copyHash 0 rfl) (by decide) ?_
  refine hz_istore (pc := 1) (i := 4) (lo2 := [(4, .int (nI 0)), (0, .ref B), (1, .int (nI v)), (2, .int (nI x)), (3, .int (nI n))]) (hz_dec kX12_copyHash 1 rfl) (by decide) rfl ?_
  refine hz_pick (pc := 3) [0, 1, 2, 3, 4] rfl ?_
  exact c_cpH_l hO_ hE0 h8 hz hv hnb hN0 hx hn hl hg0 32 0 M rfl (by omega) (mfr.rf hO_) hE0 hg0 (fun j hj => absurd hj (by omega))
set_option maxHeartbeats 4000000 in
set_option maxRecDepth 100000 in
theorem c_ask_e {κ : hz_C} {z : Nat} {M0 : hz_M} {B : Nat} (hO_ : md_O M0 B) (hE0 : mdE M0 B) (h8 : 8 ≤ B) (hz : B + 88 ≤ z) {v tip : Nat} {bl : List bk_B} (hv : v < 6) (hnb : bl.length ≤ 128) (hN0 : nbX (fA M0 B) (fL M0 B) v bl tip) {en : List en_E} (hlen : bl.length ≤ en.length) (hR0 : rvX (fA M0 B) v bl.length en) (hwf : wfE en) (htip : tip < bl.length) (hhd : hdX bl) {now : Int32} {dl : Nat → Nat} (hD0 : mdD M0 B dl) {s0 : mq_S} (hQ0 : mqR M0 B s0.1 now s0.2) {d : Nat} {to_ : Int32} (hto : (∃ b, b < 6 ∧ to_ = nI b ∧ d = dl (6 * v + b)) ∨ (to_ < 0 ∧ d = 0)) (hl113 : bl.length ≤ 113) {M : hz_M} (hfr : mfr B [] [77] M0 M) (hE : mdE M B) {hs : List Nat} (hg : isA (fA M B 77) 0 (hsB bl en tip hs)) (hsl : hs.length ≤ 16) (hse : hs = akL (eH en tip)) : hz_W κ xX12_ask 2 0 0 (fun r z2 M2 => none = r ∧ z = z2 ∧ mfr B [86, 87, 88] [70, 71, 72, 73, 74, 75, 76, 77] M0 M2 ∧ mdE M2 B ∧ mqR M2 B (sd1 now (nI v) to_ (nI 2) d (akT bl en tip) s0).1 now (sd1 now (nI v) to_ (nI 2) d (akT bl en tip) s0).2) 0 0 134 [(3, .int (nI (hs.length))), (0, .ref B), (1, .int (nI v)), (2, .int to_)] [] z M := by
  obtain ⟨fs, hO, hF⟩ := id hfr.2.1
  have hN : nbX (fA M B) (fL M B) v bl tip := hN0.mf hfr rfl
  have hR : rvX (fA M B) v bl.length en := hR0.mf hfr rfl
  have hte := hwf.ht (k := tip) (by omega)
  have hlen9 := hsB_len bl en tip hs
  have hD : mdD M B dl := by unfold mdD; rw [fA_m hfr (by decide) rfl]; exact hD0
  have hQ := hQ0.mf hfr rfl rfl
  refine hz_aloadn (pc := 134) 1 (hz_dec kX12_ask 75 rfl) rfl ?_
  refine hz_iloadn (pc := 135) 2 (hz_dec kX12_ask 76 rfl) rfl ?_
  refine hz_iloadn (pc := 136) 3 (hz_dec kX12_ask 77 rfl) rfl ?_
  refine hz_iconst (pc := 137) (v := nI 2) (hz_dec kX12_ask 78 rfl) (by decide) ?_
  refine hz_aloadn (pc := 138) 1 (hz_dec kX12_ask 79 rfl) rfl ?_
  refine hz_get (pc := 139) (v := .ref (B + 77)) (hz_dec kX12_ask 80 rfl) fo_X12_252 hO h8 (by omega) (hF.2 90 (by decide) (by decide)) ?_
  refine hz_iconst (pc := 142) (v := nI 0) (hz_dec kX12_ask 81 rfl) (by decide) ?_
  refine hz_bipush (pc := 143) (v := nI 32) (hz_dec kX12_ask 82 rfl) (by decide) ?_
  refine hz_iloadn (pc := 145) 0 (hz_dec kX12_ask 83 rfl) rfl ?_
  refine hz_mulN (pc := 146) (hz_dec kX12_ask 84 rfl) ?_
  have qa := c_msend (κ := κ) hfr.2.1 hE h8 hz hQ hD hE.a77 (by omega) (by omega) (ne_off (by decide)) (by decide) hg (by omega) (by omega) (kd := nI 2) hv hto
  rw [hlen9] at qa
  refine hz_callV (pc := 147) (a := B) (As := [.int (nI v), .int to_, .int (nI 2), .ref (B + 77), .int (nI 0), .int (nI (32 * (hs.length)))]) (st := []) (hz_dec kX12_ask 85 rfl) co_X12_622 im_X12_send se_X12_send rfl hO h8 (by omega) (qa) rfl (by decide) ⟨Nat.le_refl _, Nat.le_refl _⟩ (Nat.le_of_ble_eq_true rfl) rfl (fun r9 z9 M2 hp9 => ?_)
  obtain ⟨rfl, rfl, hf2, hE2, hQ2⟩ := hp9
  refine hz_istore (pc := 150) (i := 8) (lo2 := [(8, .int (hz_b (sdR s0.1 d (32 * hs.length)))), (3, .int (nI (hs.length))), (0, .ref B), (1, .int (nI v)), (2, .int to_)]) (hz_dec kX12_ask 86 rfl) (by decide) rfl ?_
  refine hz_vret (pc := 152) (hz_dec kX12_ask 87 rfl) rfl ⟨rfl, rfl, (hfr.mono rfl rfl).tr (hf2.mono rfl rfl), hE2, ?_⟩
  unfold akT sd1
  rw [← hse, hlen9]
  exact hQ2
set_option maxHeartbeats 4000000 in
set_option maxRecDepth 100000 in
theorem c_ask_n {κ : hz_C} {z : Nat} {M0 : hz_M} {B : Nat} (hO_ : md_O M0 B) (hE0 : mdE M0 B) (h8 : 8 ≤ B) (hz : B + 88 ≤ z) {v tip : Nat} {bl : List bk_B} (hv : v < 6) (hnb : bl.length ≤ 128) (hN0 : nbX (fA M0 B) (fL M0 B) v bl tip) {en : List en_E} (hlen : bl.length ≤ en.length) (hR0 : rvX (fA M0 B) v bl.length en) (hwf : wfE en) (htip : tip < bl.length) (hhd : hdX bl) {now : Int32} {dl : Nat → Nat} (hD0 : mdD M0 B dl) {s0 : mq_S} (hQ0 : mqR M0 B s0.1 now s0.2) {d : Nat} {to_ : Int32} (hto : (∃ b, b < 6 ∧ to_ = nI b ∧ d = dl (6 * v + b)) ∨ (to_ < 0 ∧ d = 0)) (hl113 : bl.length ≤ 113) {M : hz_M} (hfr : mfr B [] [77] M0 M) (hE : mdE M B) {hs : List Nat} (hg : isA (fA M B 77) 0 (hsB bl en tip hs)) (hsl : hs.length ≤ 12) (hs0 : List Nat) {la : Nat} (hhs : hs = hs0 ++ [la]) (hla : la ≤ eH en tip) (hse : hs = eH en tip :: akH (eH en tip) 8 1) : hz_W κ xX12_ask 2 0 0 (fun r z2 M2 => none = r ∧ z = z2 ∧ mfr B [86, 87, 88] [70, 71, 72, 73, 74, 75, 76, 77] M0 M2 ∧ mdE M2 B ∧ mqR M2 B (sd1 now (nI v) to_ (nI 2) d (akT bl en tip) s0).1 now (sd1 now (nI v) to_ (nI 2) d (akT bl en tip) s0).2) 0 0 94 [(3, .int (nI (hs.length))), (0, .ref B), (1, .int (nI v)), (2, .int to_), (4, .int (nI tip)), (7, .int (nI (eH en tip)))] [] z M := by
  obtain ⟨fs, hO, hF⟩ := id hfr.2.1
  have hN : nbX (fA M B) (fL M B) v bl tip := hN0.mf hfr rfl
  have hR : rvX (fA M B) v bl.length en := hR0.mf hfr rfl
  have hte := hwf.ht (k := tip) (by omega)
  have hlen9 := hsB_len bl en tip hs
  have hlen8 := hsB_len bl en tip hs0
  have hll : hs.length = hs0.length + 1 := by rw [hhs, List.length_append]; rfl
  have hch := chE_h hwf (tip := tip) (x := la) (by omega) hla
  have hls : lsH hs = la := by rw [hhs]; exact lsH_c _ _
  have h0b : 0 < bl.length := by omega
  have hgl : isA (fA M B 77) (32 * (hs.length - 1)) (haS (bBy bl (chE en tip la))) := by
    intro j hj
    have hj2 := hj
    rw [haS_len] at hj2
    have q := hg (32 * hs0.length + j) (by omega)
    rw [Nat.zero_add] at q
    rw [show hs.length - 1 = hs0.length by omega, q, hhs, hsB_app]
    unfold lf
    rw [List.getD_eq_getElem?_getD, List.getElem?_append_right (by omega), ← List.getD_eq_getElem?_getD, show 32 * hs0.length + j - (hsB bl en tip hs0).length = j by omega]
  refine hz_aloadn (pc := 94) 1 (hz_dec kX12_ask 52 rfl) rfl ?_
  refine hz_get (pc := 95) (v := .ref (B + 77)) (hz_dec kX12_ask 53 rfl) fo_X12_252 hO h8 (by omega) (hF.2 90 (by decide) (by decide)) ?_
  refine hz_bipush (pc := 98) (v := nI 32) (hz_dec kX12_ask 54 rfl) (by decide) ?_
  refine hz_iloadn (pc := 100) 0 (hz_dec kX12_ask 55 rfl) rfl ?_
  refine hz_iconst (pc := 101) (v := nI 1) (hz_dec kX12_ask 56 rfl) (by decide) ?_
  refine hz_subN (pc := 102) (hz_dec kX12_ask 57 rfl) (by omega) ?_
  refine hz_mulN (pc := 103) (hz_dec kX12_ask 58 rfl) ?_
  refine hz_aloadn (pc := 104) 1 (hz_dec kX12_ask 59 rfl) rfl ?_
  refine hz_get (pc := 105) (v := .ref (B + 30)) (hz_dec kX12_ask 60 rfl) fo_X12_101 hO h8 (by omega) (hF.2 32 (by decide) (by decide)) ?_
  refine hz_bipush (pc := 108) (v := nI 32) (hz_dec kX12_ask 61 rfl) (by decide) ?_
  refine hz_iloadn (pc := 110) 2 (hz_dec kX12_ask 62 rfl) rfl ?_
  refine hz_iconst (pc := 111) (v := nI 0) (hz_dec kX12_ask 63 rfl) (by decide) ?_
  refine hz_xS (pc := 112) (As := [.int (nI v), .int (nI 0)]) (st := [.int (nI 32), .ref (B + 30), .int (nI (32 * ((hs.length) - 1))), .ref (B + 77)]) (hz_dec kX12_ask 64 rfl) co_X12_419 sc_X12_at0 (c_at0) rfl (by decide) ⟨Nat.le_refl _, Nat.le_refl _⟩ (Nat.le_of_ble_eq_true rfl) rfl ?_
  refine hz_mulN (pc := 115) (hz_dec kX12_ask 65 rfl) ?_
  refine hz_bipush (pc := 116) (v := nI 32) (hz_dec kX12_ask 66 rfl) (by decide) ?_
  have hq0 := (hN.2.2 0 h0b).2.1
  refine hz_xS (pc := 118) (As := [.ref (B + 77), .int (nI (32 * ((hs.length) - 1))), .ref (B + 30), .int (nI (32 * (128 * v + 0))), .int (nI 32)]) (st := []) (hz_dec kX12_ask 67 rfl) co_X12_456 sc_X12_sameBytes (c_sameB hE.a77 (by omega) (by omega) (by decide) hE.a30 (by omega) (by omega) (by decide) (by omega) (by omega)) rfl (by decide) ⟨Nat.le_refl _, Nat.le_refl _⟩ (Nat.le_of_ble_eq_true rfl) rfl ?_
  refine hz_eqi (pc := 121) (show _ = hz_b (smS (haS (bBy bl (chE en tip la))) (haS (bBy bl 0))) by rw [smS_of hgl hq0 (haS_len _) (haS_len _)]) ?_
  refine hz_if_ne (pc := 121) (tgt := 134) (hz_dec kX12_ask 68 rfl) (by decide) (fun h5 => ?_) (fun h5 => ?_)
  · skip
    have e0 : chE en tip la = 0 := hhd _ _ (by omega) h0b (of_decide_eq_true (hz_b1 h5))
    have el : la = 0 := by rw [e0, hwf.z (by omega)] at hch; omega
    refine hz_pick (pc := 134) [0, 1, 2, 3] rfl ?_
    exact c_ask_e hO_ hE0 h8 hz hv hnb hN0 hlen hR0 hwf htip hhd hD0 hQ0 hto hl113 hfr hE hg (by omega) (by unfold akL; rw [← hse, if_pos (by omega)])
  · skip
    have hz0 : chE en tip 0 = 0 := by unfold chE; rw [Nat.sub_zero]; exact (hwf.top (k := tip) (by omega)).1
    have el : ¬ la = 0 := fun e => of_decide_eq_false (hz_b0 h5) (by rw [e, hz0])
    refine hz_aloadn (pc := 124) 1 (hz_dec kX12_ask 69 rfl) rfl ?_
    refine hz_iloadn (pc := 125) 2 (hz_dec kX12_ask 70 rfl) rfl ?_
    refine hz_iconst (pc := 126) (v := nI 0) (hz_dec kX12_ask 71 rfl) (by decide) ?_
    refine hz_iloadn (pc := 127) 0 (hz_dec kX12_ask 72 rfl) rfl ?_
    refine hz_callV (pc := 128) (a := B) (As := [.int (nI v), .int (nI 0), .int (nI (hs.length))]) (st := []) (hz_dec kX12_ask 73 rfl) co_X12_634 im_X12_copyHash se_X12_copyHash rfl hO h8 (by omega) (c_cpH hfr.2.1 hE h8 hz hv hnb hN h0b (by omega) hlen9 hg) rfl (by decide) ⟨Nat.le_refl _, Nat.le_refl _⟩ (Nat.le_of_ble_eq_true rfl) rfl (fun r9 z9 M2 hp9 => ?_)
    obtain ⟨rfl, rfl, hf2, hE2, hg2⟩ := hp9
    refine hz_incN (pc := 131) (i := 3) (lo2 := [(3, .int (nI (hs.length + 1))), (0, .ref B), (1, .int (nI v)), (2, .int to_), (4, .int (nI tip)), (7, .int (nI (eH en tip)))]) 0 (hz_dec kX12_ask 74 rfl) rfl (by decide) rfl ?_
    have e32 : nI (hs.length + 1) = nI (hs ++ [0]).length := by rw [List.length_append]; rfl
    refine hz_pick (pc := 134) [0, 1, 2, 3] rfl ?_
    rw [e32]
    exact c_ask_e hO_ hE0 h8 hz hv hnb hN0 hlen hR0 hwf htip hhd hD0 hQ0 hto hl113 (hfr.tr hf2) hE2 (by rw [hsB_app, hz0]; exact hg2) (by rw [List.length_append]; show hs.length + 1 ≤ 16; omega) (by unfold akL; rw [← hse, if_neg (by omega)])
set_option maxHeartbeats 4000000 in
set_option maxRecDepth 100000 in
theorem c_ask_l {κ : hz_C} {z : Nat} {M0 : hz_M} {B : Nat} (hO_ : md_O M0 B) (hE0 : mdE M0 B) (h8 : 8 ≤ B) (hz : B + 88 ≤ z) {v tip : Nat} {bl : List bk_B} (hv : v < 6) (hnb : bl.length ≤ 128) (hN0 : nbX (fA M0 B) (fL M0 B) v bl tip) {en : List en_E} (hlen : bl.length ≤ en.length) (hR0 : rvX (fA M0 B) v bl.length en) (hwf : wfE en) (htip : tip < bl.length) (hhd : hdX bl) {now : Int32} {dl : Nat → Nat} (hD0 : mdD M0 B dl) {s0 : mq_S} (hQ0 : mqR M0 B s0.1 now s0.2) {d : Nat} {to_ : Int32} (hto : (∃ b, b < 6 ∧ to_ = nI b ∧ d = dl (6 * v + b)) ∨ (to_ < 0 ∧ d = 0)) (hl113 : bl.length ≤ 113) : ∀ m b bk hs hs0 la M, mfr B [] [77] M0 M → mdE M B → isA (fA M B 77) 0 (hsB bl en tip hs) → hs = hs0 ++ [la] → la ≤ eH en tip → 1 ≤ b → (bk = b ∨ (bk = eH en tip + 1 ∧ eH en tip < b)) → eH en tip < b * 2 ^ m → b ≤ 256 → hs.length + m ≤ 9 → hs ++ akH (eH en tip) m b = eH en tip :: akH (eH en tip) 8 1 → hz_W κ xX12_ask 2 0 0 (fun r z2 M2 => none = r ∧ z = z2 ∧ mfr B [86, 87, 88] [70, 71, 72, 73, 74, 75, 76, 77] M0 M2 ∧ mdE M2 B ∧ mqR M2 B (sd1 now (nI v) to_ (nI 2) d (akT bl en tip) s0).1 now (sd1 now (nI v) to_ (nI 2) d (akT bl en tip) s0).2) 0 0 29 [(5, .int (nI bk)), (6, .int (nI b)), (3, .int (nI (hs.length))), (0, .ref B), (1, .int (nI v)), (2, .int to_), (4, .int (nI tip)), (7, .int (nI (eH en tip)))] [] z M := by
  intro m
  induction m with
  | zero =>
    intro b bk hs hs0 la M hfr hE hg hhs hlh hb1 hbk hbm hb2 hsl hse
    obtain ⟨fs, hO, hF⟩ := id hfr.2.1
    have hN : nbX (fA M B) (fL M B) v bl tip := hN0.mf hfr rfl
    have hR : rvX (fA M B) v bl.length en := hR0.mf hfr rfl
    have hte := hwf.ht (k := tip) (by omega)
    rw [Nat.pow_zero] at hbm
    have hse9 : hs = eH en tip :: akH (eH en tip) 8 1 := by rw [← hse]; exact (List.append_nil hs).symm
    refine hz_iload (pc := 29) 0 (hz_dec kX12_ask 18 rfl) rfl ?_
    refine hz_iload (pc := 31) 7 (hz_dec kX12_ask 19 rfl) rfl ?_
    refine hz_n_gt (pc := 33) (tgt := 94) (hz_dec kX12_ask 20 rfl) (by decide) (by omega) (by omega) (fun h1 => ?_) (fun h1 => ?_)
    · skip
      refine hz_pick (pc := 94) [2, 3, 4, 5, 6, 7] rfl ?_
      exact c_ask_n hO_ hE0 h8 hz hv hnb hN0 hlen hR0 hwf htip hhd hD0 hQ0 hto hl113 hfr hE hg (by omega) hs0 hhs hlh hse9
    · skip
      exact absurd h1 (by omega)
  | succ m ih =>
    intro b bk hs hs0 la M hfr hE hg hhs hlh hb1 hbk hbm hb2 hsl hse
    obtain ⟨fs, hO, hF⟩ := id hfr.2.1
    have hN : nbX (fA M B) (fL M B) v bl tip := hN0.mf hfr rfl
    have hR : rvX (fA M B) v bl.length en := hR0.mf hfr rfl
    have hte := hwf.ht (k := tip) (by omega)
    refine hz_iload (pc := 29) 0 (hz_dec kX12_ask 18 rfl) rfl ?_
    refine hz_iload (pc := 31) 7 (hz_dec kX12_ask 19 rfl) rfl ?_
    refine hz_n_gt (pc := 33) (tgt := 94) (hz_dec kX12_ask 20 rfl) (by decide) (by omega) (by omega) (fun h1 => ?_) (fun h1 => ?_)
    · skip
      have hse9 : hs = eH en tip :: akH (eH en tip) 8 1 := by rw [← hse, akH_no (hbk.elim (fun q => by omega) (fun q => q.2))]; exact (List.append_nil hs).symm
      refine hz_pick (pc := 94) [2, 3, 4, 5, 6, 7] rfl ?_
      exact c_ask_n hO_ hE0 h8 hz hv hnb hN0 hlen hR0 hwf htip hhd hD0 hQ0 hto hl113 hfr hE hg (by omega) hs0 hhs hlh hse9
    · skip
      have ebk : bk = b := hbk.elim id (fun q => absurd h1 (by omega))
      subst ebk
      have hch := chE_h hwf (tip := tip) (x := eH en tip - bk) (by omega) (by omega)
      have hlen9 := hsB_len bl en tip hs
      refine hz_aloadn (pc := 36) 3 (hz_dec kX12_ask 21 rfl) rfl ?_
      refine hz_iloadn (pc := 37) 4 (hz_dec kX12_ask 22 rfl) rfl ?_
      refine hz_iload (pc := 38) 6 (hz_dec kX12_ask 23 rfl) rfl ?_
      refine hz_iload (pc := 40) 7 (hz_dec kX12_ask 24 rfl) rfl ?_
      refine hz_iload (pc := 42) 0 (hz_dec kX12_ask 25 rfl) rfl ?_
      refine hz_subN (pc := 44) (hz_dec kX12_ask 26 rfl) (by omega) ?_
      refine hz_xV (pc := 45) (a := B) (As := [.int (nI v), .int (nI tip), .int (nI ((eH en tip) - bk))]) (st := []) (hz_dec kX12_ask 27 rfl) co_X12_630 im_X12_atHeight se_X12_atHeight rfl hO h8 (by omega) (c_mAt hfr.2.1 hE h8 hz hv hnb hlen hR hwf htip (by omega)) rfl (by decide) ⟨Nat.le_refl _, Nat.le_refl _⟩ (Nat.le_of_ble_eq_true rfl) rfl ?_
      refine hz_istore (pc := 48) (i := 8) (lo2 := [(8, .int (nI (chE en tip (eH en tip - bk)))), (5, .int (nI bk)), (6, .int (nI bk)), (3, .int (nI (hs.length))), (0, .ref B), (1, .int (nI v)), (2, .int to_), (4, .int (nI tip)), (7, .int (nI (eH en tip)))]) (hz_dec kX12_ask 28 rfl) (by decide) rfl ?_
      refine hz_aloadn (pc := 50) 4 (hz_dec kX12_ask 29 rfl) rfl ?_
      refine hz_iloadn (pc := 51) 5 (hz_dec kX12_ask 30 rfl) rfl ?_
      refine hz_iload (pc := 52) 0 (hz_dec kX12_ask 31 rfl) rfl ?_
      refine hz_iloadn (pc := 54) 3 (hz_dec kX12_ask 32 rfl) rfl ?_
      refine hz_callV (pc := 55) (a := B) (As := [.int (nI v), .int (nI (chE en tip (eH en tip - bk))), .int (nI (hs.length))]) (st := []) (hz_dec kX12_ask 33 rfl) co_X12_634 im_X12_copyHash se_X12_copyHash rfl hO h8 (by omega) (c_cpH hfr.2.1 hE h8 hz hv hnb hN (by omega) (by omega) hlen9 hg) rfl (by decide) ⟨Nat.le_refl _, Nat.le_refl _⟩ (Nat.le_of_ble_eq_true rfl) rfl (fun r9 z9 M2 hp9 => ?_)
      obtain ⟨rfl, rfl, hf2, hE2, hg2⟩ := hp9
      refine hz_incN (pc := 58) (i := 3) (lo2 := [(3, .int (nI (hs.length + 1))), (8, .int (nI (chE en tip (eH en tip - bk)))), (5, .int (nI bk)), (6, .int (nI bk)), (0, .ref B), (1, .int (nI v)), (2, .int to_), (4, .int (nI tip)), (7, .int (nI (eH en tip)))]) 3 (hz_dec kX12_ask 34 rfl) rfl (by decide) rfl ?_
      refine hz_iload (pc := 61) 3 (hz_dec kX12_ask 35 rfl) rfl ?_
      refine hz_z_ne (pc := 63) (tgt := 70) (hz_dec kX12_ask 36 rfl) (by decide) (by omega) (fun h3 => ?_) (fun h3 => ?_)
      · skip
        refine hz_iconst (pc := 70) (v := nI 2) (hz_dec kX12_ask 39 rfl) (by decide) ?_
        refine hz_iload (pc := 71) 3 (hz_dec kX12_ask 40 rfl) rfl ?_
        refine hz_mulN (pc := 73) (hz_dec kX12_ask 41 rfl) ?_
        refine hz_istore (pc := 74) (i := 6) (lo2 := [(6, .int (nI (2 * bk))), (3, .int (nI (hs.length + 1))), (8, .int (nI (chE en tip (eH en tip - bk)))), (5, .int (nI bk)), (0, .ref B), (1, .int (nI v)), (2, .int to_), (4, .int (nI tip)), (7, .int (nI (eH en tip)))]) (hz_dec kX12_ask 42 rfl) (by decide) rfl ?_
        refine hz_iload (pc := 76) 0 (hz_dec kX12_ask 43 rfl) rfl ?_
        refine hz_istore (pc := 78) (i := 5) (lo2 := [(5, .int (nI (2 * bk))), (6, .int (nI (2 * bk))), (3, .int (nI (hs.length + 1))), (8, .int (nI (chE en tip (eH en tip - bk)))), (0, .ref B), (1, .int (nI v)), (2, .int to_), (4, .int (nI tip)), (7, .int (nI (eH en tip)))]) (hz_dec kX12_ask 44 rfl) (by decide) rfl ?_
        refine hz_iload (pc := 80) 3 (hz_dec kX12_ask 45 rfl) rfl ?_
        refine hz_z_ne (pc := 82) (tgt := 91) (hz_dec kX12_ask 46 rfl) (by decide) (by omega) (fun h4 => ?_) (fun h4 => ?_)
        · skip
          refine hz_goto (pc := 91) (tgt := 29) (hz_dec kX12_ask 51 rfl) (by decide) ?_
          have e32 : nI (hs.length + 1) = nI (hs ++ [eH en tip - bk]).length := by rw [List.length_append]; rfl
          refine hz_pick (pc := 29) [0, 1, 2, 4, 5, 6, 7, 8] rfl ?_
          rw [e32]
          exact ih (2 * bk) (2 * bk) (hs ++ [eH en tip - bk]) hs _ M2 (hfr.tr hf2) hE2 (by rw [hsB_app]; exact hg2) rfl (by omega) (by omega) (Or.inl rfl) (by rw [Nat.pow_succ] at hbm; rw [Nat.mul_comm 2 bk, Nat.mul_assoc, Nat.mul_comm 2]; exact hbm) (by omega) (by rw [List.length_append]; show hs.length + 1 + m ≤ 9; omega) (by rw [← hse, akH_st h1, List.append_assoc]; rfl)
        · skip
          have h40 : eH en tip - bk = 0 := by rw [h4, hwf.z (by omega)] at hch; omega
          refine hz_iload (pc := 85) 8 (hz_dec kX12_ask 47 rfl) rfl ?_
          refine hz_iconst (pc := 87) (v := nI 1) (hz_dec kX12_ask 48 rfl) (by decide) ?_
          refine hz_addN (pc := 88) (hz_dec kX12_ask 49 rfl) ?_
          refine hz_istore (pc := 89) (i := 5) (lo2 := [(5, .int (nI ((eH en tip) + 1))), (6, .int (nI (2 * bk))), (3, .int (nI (hs.length + 1))), (8, .int (nI (chE en tip (eH en tip - bk)))), (0, .ref B), (1, .int (nI v)), (2, .int to_), (4, .int (nI tip)), (7, .int (nI (eH en tip)))]) (hz_dec kX12_ask 50 rfl) (by decide) rfl ?_
          refine hz_goto (pc := 91) (tgt := 29) (hz_dec kX12_ask 51 rfl) (by decide) ?_
          have e32 : nI (hs.length + 1) = nI (hs ++ [eH en tip - bk]).length := by rw [List.length_append]; rfl
          refine hz_pick (pc := 29) [0, 1, 2, 4, 5, 6, 7, 8] rfl ?_
          rw [e32]
          exact ih (2 * bk) (eH en tip + 1) (hs ++ [eH en tip - bk]) hs _ M2 (hfr.tr hf2) hE2 (by rw [hsB_app]; exact hg2) rfl (by omega) (by omega) (Or.inr ⟨rfl, by omega⟩) (by rw [Nat.pow_succ] at hbm; rw [Nat.mul_comm 2 bk, Nat.mul_assoc, Nat.mul_comm 2]; exact hbm) (by omega) (by rw [List.length_append]; show hs.length + 1 + m ≤ 9; omega) (by rw [← hse, akH_st h1, List.append_assoc]; rfl)
      · skip
        exact absurd h3 (by omega)
set_option maxHeartbeats 4000000 in
set_option maxRecDepth 100000 in
theorem c_ask {κ : hz_C} {z : Nat} {M : hz_M} {B : Nat} (hO_ : md_O M B) (hE0 : mdE M B) (h8 : 8 ≤ B) (hz : B + 88 ≤ z) {v tip : Nat} {bl : List bk_B} (hv : v < 6) (hnb : bl.length ≤ 128) (hN0 : nbX (fA M B) (fL M B) v bl tip) {en : List en_E} (hlen : bl.length ≤ en.length) (hR0 : rvX (fA M B) v bl.length en) (hwf : wfE en) (htip : tip < bl.length) (hhd : hdX bl) {now : Int32} {dl : Nat → Nat} (hD0 : mdD M B dl) {s0 : mq_S} (hQ0 : mqR M B s0.1 now s0.2) {d : Nat} {to_ : Int32} (hto : (∃ b, b < 6 ∧ to_ = nI b ∧ d = dl (6 * v + b)) ∨ (to_ < 0 ∧ d = 0)) (hl113 : bl.length ≤ 113) : hz_Mt κ xX12_ask 2 0 0 [.ref B, .int (nI v), .int to_] z M (fun r z2 M2 => none = r ∧ z = z2 ∧ mfr B [86, 87, 88] [70, 71, 72, 73, 74, 75, 76, 77] M M2 ∧ mdE M2 B ∧ mqR M2 B (sd1 now (nI v) to_ (nI 2) d (akT bl en tip) s0).1 now (sd1 now (nI v) to_ (nI 2) d (akT bl en tip) s0).2) := by
  refine hz_ent (lo := [(0, .ref B), (1, .int (nI v)), (2, .int to_)]) (by decide) (Nat.le_of_ble_eq_true rfl) rfl ?_
  obtain ⟨fs, hO, hF⟩ := id hO_
  have hR0y := (hR0 tip (by omega)).1 htip
  have hte := hwf.ht (k := tip) (by omega)
  refine hz_iconst (pc := 0) (v := nI 0) (hz_dec kX12_ask 0 rfl) (by decide) ?_
  refine hz_istoren (pc := 1) (i := 3) (lo2 := [(3, .int (nI 0)), (0, .ref B), (1, .int (nI v)), (2, .int to_)]) (hz_dec kX12_ask 1 rfl) rfl (by decide) rfl ?_
  refine hz_aloadn (pc := 2) 1 (hz_dec kX12_ask 2 rfl) rfl ?_
  refine hz_get (pc := 3) (v := .ref (B + 21)) (hz_dec kX12_ask 3 rfl) fo_X12_74 hO h8 (by omega) (hF.2 23 (by decide) (by decide)) ?_
  refine hz_iloadn (pc := 6) 2 (hz_dec kX12_ask 4 rfl) rfl ?_
  refine hz_iald (pc := 7) (j := v) (hz_dec kX12_ask 5 rfl) hE0.a21 (by omega) (by omega) rfl (by omega) (by decide) ?_
  refine hz_eqi (pc := 8) hN0.2.1 ?_
  refine hz_istore (pc := 8) (i := 4) (lo2 := [(4, .int (nI tip)), (3, .int (nI 0)), (0, .ref B), (1, .int (nI v)), (2, .int to_)]) (hz_dec kX12_ask 6 rfl) (by decide) rfl ?_
  refine hz_iconst (pc := 10) (v := nI 0) (hz_dec kX12_ask 7 rfl) (by decide) ?_
  refine hz_istore (pc := 11) (i := 5) (lo2 := [(5, .int (nI 0)), (4, .int (nI tip)), (3, .int (nI 0)), (0, .ref B), (1, .int (nI v)), (2, .int to_)]) (hz_dec kX12_ask 8 rfl) (by decide) rfl ?_
  refine hz_iconst (pc := 13) (v := nI 0) (hz_dec kX12_ask 9 rfl) (by decide) ?_
  refine hz_istore (pc := 14) (i := 6) (lo2 := [(6, .int (nI 0)), (5, .int (nI 0)), (4, .int (nI tip)), (3, .int (nI 0)), (0, .ref B), (1, .int (nI v)), (2, .int to_)]) (hz_dec kX12_ask 10 rfl) (by decide) rfl ?_
  refine hz_aloadn (pc := 16) 4 (hz_dec kX12_ask 11 rfl) rfl ?_
  refine hz_get (pc := 17) (v := .ref (B + 27)) (hz_dec kX12_ask 12 rfl) fo_X12_92 hO h8 (by omega) (hF.2 29 (by decide) (by decide)) ?_
  refine hz_iloadn (pc := 20) 5 (hz_dec kX12_ask 13 rfl) rfl ?_
  refine hz_iload (pc := 21) 2 (hz_dec kX12_ask 14 rfl) rfl ?_
  refine hz_xS (pc := 23) (As := [.int (nI v), .int (nI tip)]) (st := [.ref (B + 27)]) (hz_dec kX12_ask 15 rfl) co_X12_419 sc_X12_at0 (c_at0) rfl (by decide) ⟨Nat.le_refl _, Nat.le_refl _⟩ (Nat.le_of_ble_eq_true rfl) rfl ?_
  refine hz_iald (pc := 26) (j := 128 * v + tip) (hz_dec kX12_ask 16 rfl) hE0.a27 (by omega) (by omega) rfl (by omega) (by decide) ?_
  refine hz_eqi (pc := 27) hR0y.2.1 ?_
  refine hz_istore (pc := 27) (i := 7) (lo2 := [(7, .int (nI (eH en tip))), (6, .int (nI 0)), (5, .int (nI 0)), (4, .int (nI tip)), (3, .int (nI 0)), (0, .ref B), (1, .int (nI v)), (2, .int to_)]) (hz_dec kX12_ask 17 rfl) (by decide) rfl ?_
  refine hz_iload (pc := 29) 2 (hz_dec kX12_ask 18 rfl) rfl ?_
  refine hz_iload (pc := 31) 0 (hz_dec kX12_ask 19 rfl) rfl ?_
  refine hz_n_gt (pc := 33) (tgt := 94) (hz_dec kX12_ask 20 rfl) (by decide) (by omega) (by omega) (fun h1 => ?_) (fun h1 => ?_)
  · skip
    exact absurd h1 (by omega)
  · skip
    refine hz_aloadn (pc := 36) 5 (hz_dec kX12_ask 21 rfl) rfl ?_
    refine hz_iloadn (pc := 37) 6 (hz_dec kX12_ask 22 rfl) rfl ?_
    refine hz_iload (pc := 38) 3 (hz_dec kX12_ask 23 rfl) rfl ?_
    refine hz_iload (pc := 40) 0 (hz_dec kX12_ask 24 rfl) rfl ?_
    refine hz_iload (pc := 42) 2 (hz_dec kX12_ask 25 rfl) rfl ?_
    refine hz_subN (pc := 44) (hz_dec kX12_ask 26 rfl) (by omega) ?_
    refine hz_xV (pc := 45) (a := B) (As := [.int (nI v), .int (nI tip), .int (nI ((eH en tip) - 0))]) (st := []) (hz_dec kX12_ask 27 rfl) co_X12_630 im_X12_atHeight se_X12_atHeight rfl hO h8 (by omega) (c_mAt hO_ hE0 h8 hz hv hnb hlen hR0 hwf htip (by omega)) rfl (by decide) ⟨Nat.le_refl _, Nat.le_refl _⟩ (Nat.le_of_ble_eq_true rfl) rfl ?_
    refine hz_eqi (pc := 48) (show _ = nI tip by unfold chE; rw [show eH en tip - (eH en tip - 0) = 0 by omega]; rfl) ?_
    refine hz_istore (pc := 48) (i := 8) (lo2 := [(8, .int (nI tip)), (7, .int (nI (eH en tip))), (6, .int (nI 0)), (5, .int (nI 0)), (4, .int (nI tip)), (3, .int (nI 0)), (0, .ref B), (1, .int (nI v)), (2, .int to_)]) (hz_dec kX12_ask 28 rfl) (by decide) rfl ?_
    refine hz_aloadn (pc := 50) 6 (hz_dec kX12_ask 29 rfl) rfl ?_
    refine hz_iloadn (pc := 51) 7 (hz_dec kX12_ask 30 rfl) rfl ?_
    refine hz_iload (pc := 52) 0 (hz_dec kX12_ask 31 rfl) rfl ?_
    refine hz_iloadn (pc := 54) 5 (hz_dec kX12_ask 32 rfl) rfl ?_
    refine hz_callV (pc := 55) (a := B) (As := [.int (nI v), .int (nI tip), .int (nI 0)]) (st := []) (hz_dec kX12_ask 33 rfl) co_X12_634 im_X12_copyHash se_X12_copyHash rfl hO h8 (by omega) (c_cpH (l := []) hO_ hE0 h8 hz hv hnb hN0 htip (by decide) rfl (isA_nil _ _)) rfl (by decide) ⟨Nat.le_refl _, Nat.le_refl _⟩ (Nat.le_of_ble_eq_true rfl) rfl (fun r9 z9 M2 hp9 => ?_)
    obtain ⟨rfl, rfl, hf2, hE2, hg2⟩ := hp9
    refine hz_incN (pc := 58) (i := 3) (lo2 := [(3, .int (nI (0 + 1))), (8, .int (nI tip)), (7, .int (nI (eH en tip))), (6, .int (nI 0)), (5, .int (nI 0)), (4, .int (nI tip)), (0, .ref B), (1, .int (nI v)), (2, .int to_)]) 5 (hz_dec kX12_ask 34 rfl) rfl (by decide) rfl ?_
    refine hz_iload (pc := 61) 3 (hz_dec kX12_ask 35 rfl) rfl ?_
    have e1 : hsB bl en tip [eH en tip] = haS (bBy bl tip) := by unfold hsB chE; simp [upE]
    refine hz_z_ne (pc := 63) (tgt := 70) (hz_dec kX12_ask 36 rfl) (by decide) (by omega) (fun h3 => ?_) (fun h3 => ?_)
    · skip
      exact absurd h3 (by omega)
    · skip
      refine hz_iconst (pc := 66) (v := nI 1) (hz_dec kX12_ask 37 rfl) (by decide) ?_
      refine hz_goto (pc := 67) (tgt := 74) (hz_dec kX12_ask 38 rfl) (by decide) ?_
      refine hz_istore (pc := 74) (i := 6) (lo2 := [(6, .int (nI 1)), (3, .int (nI (0 + 1))), (8, .int (nI tip)), (7, .int (nI (eH en tip))), (5, .int (nI 0)), (4, .int (nI tip)), (0, .ref B), (1, .int (nI v)), (2, .int to_)]) (hz_dec kX12_ask 42 rfl) (by decide) rfl ?_
      refine hz_iload (pc := 76) 0 (hz_dec kX12_ask 43 rfl) rfl ?_
      refine hz_istore (pc := 78) (i := 5) (lo2 := [(5, .int (nI 1)), (6, .int (nI 1)), (3, .int (nI (0 + 1))), (8, .int (nI tip)), (7, .int (nI (eH en tip))), (4, .int (nI tip)), (0, .ref B), (1, .int (nI v)), (2, .int to_)]) (hz_dec kX12_ask 44 rfl) (by decide) rfl ?_
      refine hz_iload (pc := 80) 3 (hz_dec kX12_ask 45 rfl) rfl ?_
      refine hz_z_ne (pc := 82) (tgt := 91) (hz_dec kX12_ask 46 rfl) (by decide) (by omega) (fun h4 => ?_) (fun h4 => ?_)
      · skip
        refine hz_goto (pc := 91) (tgt := 29) (hz_dec kX12_ask 51 rfl) (by decide) ?_
        refine hz_pick (pc := 29) [0, 1, 2, 6, 7, 8, 5, 4] rfl ?_
        exact c_ask_l hO_ hE0 h8 hz hv hnb hN0 hlen hR0 hwf htip hhd hD0 hQ0 hto hl113 8 1 1 [eH en tip] [] (eH en tip) M2 hf2 hE2 (by rw [e1]; exact hg2) rfl (Nat.le_refl _) (by omega) (Or.inl rfl) (by omega) (by omega) (Nat.le_refl 9) rfl
      · skip
        have h40 : eH en tip = 0 := by rw [h4]; exact hwf.z (by omega)
        refine hz_iload (pc := 85) 4 (hz_dec kX12_ask 47 rfl) rfl ?_
        refine hz_iconst (pc := 87) (v := nI 1) (hz_dec kX12_ask 48 rfl) (by decide) ?_
        refine hz_addN (pc := 88) (hz_dec kX12_ask 49 rfl) ?_
        refine hz_istore (pc := 89) (i := 5) (lo2 := [(5, .int (nI ((eH en tip) + 1))), (6, .int (nI 1)), (3, .int (nI (0 + 1))), (8, .int (nI tip)), (7, .int (nI (eH en tip))), (4, .int (nI tip)), (0, .ref B), (1, .int (nI v)), (2, .int to_)]) (hz_dec kX12_ask 50 rfl) (by decide) rfl ?_
        refine hz_goto (pc := 91) (tgt := 29) (hz_dec kX12_ask 51 rfl) (by decide) ?_
        refine hz_pick (pc := 29) [0, 1, 2, 6, 7, 8, 5, 4] rfl ?_
        exact c_ask_l hO_ hE0 h8 hz hv hnb hN0 hlen hR0 hwf htip hhd hD0 hQ0 hto hl113 8 1 (eH en tip + 1) [eH en tip] [] (eH en tip) M2 hf2 hE2 (by rw [e1]; exact hg2) rfl (Nat.le_refl _) (by omega) (Or.inr ⟨rfl, by omega⟩) (by omega) (by omega) (Nat.le_refl 9) rfl
