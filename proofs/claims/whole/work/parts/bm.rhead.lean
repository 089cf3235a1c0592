/-! headers: the reference, whole -/
set_option maxHeartbeats 4000000 in
set_option maxRecDepth 100000 in
theorem c_rh_e {κ : hz_C} {z B nn v : Nat} {now fr : Int32} {dl : Nat → Nat} (hv6 : v < 6) {d : Nat} (hto : (∃ b, b < 6 ∧ fr = nI b ∧ d = dl (6 * v + b)) ∨ (fr < 0 ∧ d = 0)) {M : hz_M} {S : ks_S} {l : by_L} (hk0 : md_k B M z) (hmg : mgR M B nn now dl (ksQ S)) (hmn : mnB M B v (ksB S) (enB (ksB S)) (ksT S)) (hI : ksI S) (hl4 : l.length ≤ 4000) (h78 : isA (fA M B 78) 0 l) (h92 : fdB M B 92 = some (.int (nI l.length))) {n : Nat} (hn : n ≤ 16) (hnl : 80 * n = l.length) {M2 : hz_M} {en : List en_E} {a : by_L} {c : Nat} (hF : rhF M M2 B v (ksB S) en a) (hc16 : c ≤ 16) (ha : a.length = 32 * c) (hZ : hhZ (ksB S) l n = a) : hz_W κ xX12_receiveHeaders 5 0 0 (fun r z2 M2 => none = r ∧ z = z2 ∧ mfr B [86, 87, 88] [3, 4, 5, 7, 10, 11, 37, 38, 39, 40, 41, 42, 70, 71, 72, 73, 74, 75, 76] M M2 ∧ mdE M2 B ∧ mgR M2 B nn now dl (hsQ now v fr d S l n)) 0 0 72 [(3, .int (nI c)), (0, .ref B), (1, .int (nI v)), (2, .int fr)] [] z M2 := by
  obtain ⟨-, -, -, h8, hz⟩ := id hk0
  obtain ⟨i1, i2, i3, i4, i5⟩ := id hI
  have htop := i1.top
  obtain ⟨hfr2, hE2, hR2, h372⟩ := id hF
  obtain ⟨fs2, hO2, hF2⟩ := id hfr2.2.1
  have hk2 := hk0.mf hfr2 rfl rfl
  have hN2 := hmn.2.1.mf hfr2 rfl
  have h782 : isA (fA M2 B 78) 0 l := by rw [fA_m hfr2 (by decide) rfl]; exact h78
  have hmg2 := hmg.mf hfr2 rfl rfl
  have g922 : fs2[92]? = some (.int (nI l.length)) := (fdB_of hO2 92).symm.trans ((hfr2.2.2 92 rfl).trans h92)
  refine hz_iloadn (pc := 72) 0 (hz_dec kX12_receiveHeaders 37 rfl) rfl ?_
  refine hz_z_le (pc := 73) (tgt := 94) (hz_dec kX12_receiveHeaders 38 rfl) (by decide) (by omega) (fun h1 => ?_) (fun h1 => ?_)
  · skip
    have eQ : hsQ now v fr d S l n = ksQ S := by unfold hsQ; rw [hZ, if_pos (by omega)]
    exact hz_vret (pc := 94) (hz_dec kX12_receiveHeaders 51 rfl) rfl ⟨rfl, rfl, hfr2.mono rfl rfl, hE2, by rw [eQ]; exact hmg2⟩
  · skip
    have eQ : hsQ now v fr d S l n = sd1 now (nI v) fr (nI 4) d a (ksQ S) := by unfold hsQ; rw [hZ, if_neg (by omega)]
    refine hz_aloadn (pc := 76) 1 (hz_dec kX12_receiveHeaders 39 rfl) rfl ?_
    refine hz_iloadn (pc := 77) 2 (hz_dec kX12_receiveHeaders 40 rfl) rfl ?_
    refine hz_iloadn (pc := 78) 3 (hz_dec kX12_receiveHeaders 41 rfl) rfl ?_
    refine hz_iconst (pc := 79) (v := nI 4) (hz_dec kX12_receiveHeaders 42 rfl) (by decide) ?_
    refine hz_aloadn (pc := 80) 1 (hz_dec kX12_receiveHeaders 43 rfl) rfl ?_
    refine hz_get (pc := 81) (v := .ref (B + 37)) (hz_dec kX12_receiveHeaders 44 rfl) fo_X12_122 hO2 h8 (by omega) (hF2.2 41 (by decide) (by decide)) ?_
    refine hz_iconst (pc := 84) (v := nI 0) (hz_dec kX12_receiveHeaders 45 rfl) (by decide) ?_
    refine hz_bipush (pc := 85) (v := nI 32) (hz_dec kX12_receiveHeaders 46 rfl) (by decide) ?_
    refine hz_iloadn (pc := 87) 0 (hz_dec kX12_receiveHeaders 47 rfl) rfl ?_
    refine hz_mulN (pc := 88) (hz_dec kX12_receiveHeaders 48 rfl) ?_
    have qa := c_msend (κ := κ) hfr2.2.1 hE2 h8 hz hmg2.2.2 hmg2.2.1 hE2.a37 (by omega) (by omega) (ne_off (by decide)) (by decide) h372 (by omega) (by omega) (kd := nI 4) hv6 hto
    rw [ha] at qa
    refine hz_callV (pc := 89) (a := B) (As := [.int (nI v), .int fr, .int (nI 4), .ref (B + 37), .int (nI 0), .int (nI (32 * c))]) (st := []) (hz_dec kX12_receiveHeaders 49 rfl) co_X12_622 im_X12_send se_X12_send rfl hO2 h8 (by omega) (qa) rfl (by decide) ⟨Nat.le_refl _, Nat.le_refl _⟩ (Nat.le_of_ble_eq_true rfl) rfl (fun r9 z9 M3 hp9 => ?_)
    obtain ⟨rfl, rfl, hf3, hE3, hQ3⟩ := hp9
    refine hz_istore (pc := 92) (i := 4) (lo2 := [(4, .int (hz_b (sdR (ksQ S).1 d (32 * c)))), (3, .int (nI c)), (0, .ref B), (1, .int (nI v)), (2, .int fr)]) (hz_dec kX12_receiveHeaders 50 rfl) (by decide) rfl ?_
    exact hz_vret (pc := 94) (hz_dec kX12_receiveHeaders 51 rfl) rfl ⟨rfl, rfl, (hfr2.mono rfl rfl).tr (hf3.mono rfl rfl), hE3, by rw [eQ]; unfold sd1; rw [ha]; exact ⟨(hf3.2.2 1 rfl).trans hmg2.1, by unfold mdD; rw [fA_m hf3 (by decide) rfl]; exact hmg2.2.1, hQ3⟩⟩
set_option maxHeartbeats 4000000 in
set_option maxRecDepth 100000 in
theorem c_rh_l {κ : hz_C} {z B nn v : Nat} {now fr : Int32} {dl : Nat → Nat} (hv6 : v < 6) {d : Nat} (hto : (∃ b, b < 6 ∧ fr = nI b ∧ d = dl (6 * v + b)) ∨ (fr < 0 ∧ d = 0)) {M : hz_M} {S : ks_S} {l : by_L} (hk0 : md_k B M z) (hmg : mgR M B nn now dl (ksQ S)) (hmn : mnB M B v (ksB S) (enB (ksB S)) (ksT S)) (hI : ksI S) (hl4 : l.length ≤ 4000) (h78 : isA (fA M B 78) 0 l) (h92 : fdB M B 92 = some (.int (nI l.length))) {n : Nat} (hn : n ≤ 16) (hnl : 80 * n = l.length) : ∀ k i en b a c M2, k = n - i → i ≤ n → rhF M M2 B v (ksB S) en a → hhI (ksB S) l i (en, b, a) → c ≤ i → en.length = (ksB S).length + c → a.length = 32 * c → hhZ (ksB S) l n = hhQ (ksB S) l k i (en, b, a) → hz_W κ xX12_receiveHeaders 5 0 0 (fun r z2 M2 => none = r ∧ z = z2 ∧ mfr B [86, 87, 88] [3, 4, 5, 7, 10, 11, 37, 38, 39, 40, 41, 42, 70, 71, 72, 73, 74, 75, 76] M M2 ∧ mdE M2 B ∧ mgR M2 B nn now dl (hsQ now v fr d S l n)) 0 0 5 [(4, .int (nI i)), (3, .int (nI c)), (0, .ref B), (1, .int (nI v)), (2, .int fr)] [] z M2 := by
  intro k
  induction k with
  | zero =>
    intro i en b a c M2 hk hi hF hJI hci hec ha hZ
    obtain ⟨-, -, -, h8, hz⟩ := id hk0
    obtain ⟨i1, i2, i3, i4, i5⟩ := id hI
    have htop := i1.top
    obtain ⟨hfr2, hE2, hR2, h372⟩ := id hF
    obtain ⟨fs2, hO2, hF2⟩ := id hfr2.2.1
    have hk2 := hk0.mf hfr2 rfl rfl
    have hN2 := hmn.2.1.mf hfr2 rfl
    have h782 : isA (fA M2 B 78) 0 l := by rw [fA_m hfr2 (by decide) rfl]; exact h78
    have hmg2 := hmg.mf hfr2 rfl rfl
    have g922 : fs2[92]? = some (.int (nI l.length)) := (fdB_of hO2 92).symm.trans ((hfr2.2.2 92 rfl).trans h92)
    refine hz_iload (pc := 5) 0 (hz_dec kX12_receiveHeaders 4 rfl) rfl ?_
    refine hz_aloadn (pc := 7) 2 (hz_dec kX12_receiveHeaders 5 rfl) rfl ?_
    refine hz_get (pc := 8) (v := .int (nI (l.length))) (hz_dec kX12_receiveHeaders 6 rfl) fo_X12_637 hO2 h8 (by omega) g922 ?_
    refine hz_bipush (pc := 11) (v := nI 80) (hz_dec kX12_receiveHeaders 7 rfl) (by decide) ?_
    refine hz_divN (pc := 13) (hz_dec kX12_receiveHeaders 8 rfl) (by omega) (by decide) (by decide) ?_
    refine hz_eqi (pc := 14) (show _ = nI n by rw [show l.length / 80 = n by omega]) ?_
    refine hz_n_ge (pc := 14) (tgt := 72) (hz_dec kX12_receiveHeaders 9 rfl) (by decide) (by omega) (by omega) (fun h1 => ?_) (fun h1 => ?_)
    · skip
      refine hz_pick (pc := 72) [1, 2, 3, 4] rfl ?_
      exact c_rh_e hv6 hto hk0 hmg hmn hI hl4 h78 h92 hn hnl hF (by omega) ha hZ
    · skip
      exact absurd h1 (by omega)
  | succ k ih =>
    intro i en b a c M2 hk hi hF hJI hci hec ha hZ
    obtain ⟨-, -, -, h8, hz⟩ := id hk0
    obtain ⟨i1, i2, i3, i4, i5⟩ := id hI
    have htop := i1.top
    obtain ⟨hfr2, hE2, hR2, h372⟩ := id hF
    obtain ⟨fs2, hO2, hF2⟩ := id hfr2.2.1
    have hk2 := hk0.mf hfr2 rfl rfl
    have hN2 := hmn.2.1.mf hfr2 rfl
    have h782 : isA (fA M2 B 78) 0 l := by rw [fA_m hfr2 (by decide) rfl]; exact h78
    have hmg2 := hmg.mf hfr2 rfl rfl
    have g922 : fs2[92]? = some (.int (nI l.length)) := (fdB_of hO2 92).symm.trans ((hfr2.2.2 92 rfl).trans h92)
    have hAi : isA (fA M2 B 78) (80 * i) (hhd l i) := by have q := isA_sub (i := 80 * i) (n := 80) h782 (by omega); rw [Nat.zero_add] at q; exact q
    refine hz_iload (pc := 5) 0 (hz_dec kX12_receiveHeaders 4 rfl) rfl ?_
    refine hz_aloadn (pc := 7) 2 (hz_dec kX12_receiveHeaders 5 rfl) rfl ?_
    refine hz_get (pc := 8) (v := .int (nI (l.length))) (hz_dec kX12_receiveHeaders 6 rfl) fo_X12_637 hO2 h8 (by omega) g922 ?_
    refine hz_bipush (pc := 11) (v := nI 80) (hz_dec kX12_receiveHeaders 7 rfl) (by decide) ?_
    refine hz_divN (pc := 13) (hz_dec kX12_receiveHeaders 8 rfl) (by omega) (by decide) (by decide) ?_
    refine hz_eqi (pc := 14) (show _ = nI n by rw [show l.length / 80 = n by omega]) ?_
    refine hz_n_ge (pc := 14) (tgt := 72) (hz_dec kX12_receiveHeaders 9 rfl) (by decide) (by omega) (by omega) (fun h1 => ?_) (fun h1 => ?_)
    · skip
      exact absurd h1 (by omega)
    · skip
      refine hz_bipush (pc := 17) (v := nI 80) (hz_dec kX12_receiveHeaders 10 rfl) (by decide) ?_
      refine hz_iload (pc := 19) 0 (hz_dec kX12_receiveHeaders 11 rfl) rfl ?_
      refine hz_mulN (pc := 21) (hz_dec kX12_receiveHeaders 12 rfl) ?_
      refine hz_istore (pc := 22) (i := 5) (lo2 := [(5, .int (nI (80 * i))), (4, .int (nI i)), (3, .int (nI c)), (0, .ref B), (1, .int (nI v)), (2, .int fr)]) (hz_dec kX12_receiveHeaders 13 rfl) (by decide) rfl ?_
      refine hz_aloadn (pc := 24) 3 (hz_dec kX12_receiveHeaders 14 rfl) rfl ?_
      refine hz_aloadn (pc := 25) 3 (hz_dec kX12_receiveHeaders 15 rfl) rfl ?_
      refine hz_get (pc := 26) (v := .ref (B + 78)) (hz_dec kX12_receiveHeaders 16 rfl) fo_X12_255 hO2 h8 (by omega) (hF2.2 91 (by decide) (by decide)) ?_
      refine hz_iload (pc := 29) 0 (hz_dec kX12_receiveHeaders 17 rfl) rfl ?_
      refine hz_bipush (pc := 31) (v := nI 80) (hz_dec kX12_receiveHeaders 18 rfl) (by decide) ?_
      refine hz_callV (pc := 33) (a := B) (As := [.ref (B + 78), .int (nI (80 * i)), .int (nI 80)]) (st := []) (hz_dec kX12_receiveHeaders 19 rfl) co_X12_412 im_X12_twiceOf se_X12_twiceOf rfl hO2 h8 (by omega) (c_twiceOf (at_ := 80 * i) (n := 80) hk2 hE2.s hE2.a78 (by omega) (by omega) (by decide) (by omega)) rfl (by decide) ⟨Nat.le_refl _, Nat.le_refl _⟩ (Nat.le_of_ble_eq_true rfl) rfl (fun r9 z9 M3 hp9 => ?_)
      obtain ⟨rfl, rfl, hf3, hs3, dd3, hd3, hdc3⟩ := hp9
      have hm3 : mfr B [] [3, 4, 5, 7] M2 M3 := mfr.ofl hfr2.2.1 hf3 rfl
      have hFF3 := hF.mf hm3 (hE2.hs hm3 hs3 rfl) rfl rfl rfl
      obtain ⟨hfr3, hE3, hR3, h373⟩ := id hFF3
      obtain ⟨fs3, hO3, hF3⟩ := id hfr3.2.1
      have hk3 := hk0.mf hfr3 rfl rfl
      have hN3 := hmn.2.1.mf hfr3 rfl
      have h783 : isA (fA M3 B 78) 0 l := by rw [fA_m hfr3 (by decide) rfl]; exact h78
      have hmg3 := hmg.mf hfr3 rfl rfl
      have g923 : fs3[92]? = some (.int (nI l.length)) := (fdB_of hO3 92).symm.trans ((hfr3.2.2 92 rfl).trans h92)
      rw [shS_of hAi (subL_len _ _ _)] at hdc3
      have h5 : ∀ j, j < 32 → fA M3 B 5 j = sh_dg (sh_2 (shS (hhd l i))) j := fun j hj => by rw [fA_of hd3]; exact hdc3 j hj
      have hdA : isA (fA M3 B 5) 0 (hhH (hhd l i)) := isA_dg (fun j hj => by rw [Nat.zero_add]; exact h5 j hj)
      refine hz_aloadn (pc := 36) 3 (hz_dec kX12_receiveHeaders 20 rfl) rfl ?_
      refine hz_iloadn (pc := 37) 4 (hz_dec kX12_receiveHeaders 21 rfl) rfl ?_
      refine hz_aloadn (pc := 38) 3 (hz_dec kX12_receiveHeaders 22 rfl) rfl ?_
      refine hz_get (pc := 39) (v := .ref (B + 5)) (hz_dec kX12_receiveHeaders 23 rfl) fo_X12_22 hO3 h8 (by omega) (hF3.2 6 (by decide) (by decide)) ?_
      refine hz_iconst (pc := 42) (v := nI 0) (hz_dec kX12_receiveHeaders 24 rfl) (by decide) ?_
      refine hz_xV (pc := 43) (a := B) (As := [.int (nI v), .ref (B + 5), .int (nI 0)]) (st := []) (hz_dec kX12_receiveHeaders 25 rfl) co_X12_531 im_X12_findBlock se_X12_findBlock rfl hO3 h8 (by omega) (c_mfB hfr3.2.1 hE3 h8 hz hv6 (by omega) hN3 hE3.a5 (by omega) (by omega) (by decide) hdA (hhH_len _) (by decide)) rfl (by decide) ⟨Nat.le_refl _, Nat.le_refl _⟩ (Nat.le_of_ble_eq_true rfl) rfl ?_
      by_cases ck : blF (ksB S) (hhH (hhd l i)) < (ksB S).length
      · skip
        refine hz_eqi (pc := 46) (show _ = nI (blF (ksB S) (hhH (hhd l i))) from if_pos ck) ?_
        refine hz_z_ge (pc := 46) (tgt := 66) (hz_dec kX12_receiveHeaders 26 rfl) (by decide) (by omega) ?_
        refine hz_incN (pc := 66) (i := 4) (lo2 := [(4, .int (nI (i + 1))), (5, .int (nI (80 * i))), (3, .int (nI c)), (0, .ref B), (1, .int (nI v)), (2, .int fr)]) 1 (hz_dec kX12_receiveHeaders 35 rfl) rfl (by decide) rfl ?_
        refine hz_goto (pc := 69) (tgt := 5) (hz_dec kX12_receiveHeaders 36 rfl) (by decide) ?_
        refine hz_pick (pc := 5) [0, 2, 3, 4, 5] rfl ?_
        exact ih (i + 1) en false a c M3 (by omega) (by omega) hFF3 (hhT_I hJI (hhT_k ck)) (by omega) hec ha (hZ.trans (hhQ_s (hhT_k ck)))
      · skip
        refine hz_eqi (pc := 46) (show _ = (-1 : Int32) from if_neg ck) ?_
        refine hz_if_ge (pc := 46) (tgt := 66) (hz_dec kX12_receiveHeaders 26 rfl) (by decide) (fun h2 => ?_) (fun h2 => ?_)
        · skip
          exact absurd h2 (by decide)
        · skip
          refine hz_aloadn (pc := 49) 3 (hz_dec kX12_receiveHeaders 27 rfl) rfl ?_
          refine hz_iloadn (pc := 50) 4 (hz_dec kX12_receiveHeaders 28 rfl) rfl ?_
          refine hz_iload (pc := 51) 0 (hz_dec kX12_receiveHeaders 29 rfl) rfl ?_
          refine hz_iloadn (pc := 53) 2 (hz_dec kX12_receiveHeaders 30 rfl) rfl ?_
          refine hz_callV (pc := 54) (a := B) (As := [.int (nI v), .int (nI (80 * i)), .int (nI c)]) (st := []) (hz_dec kX12_receiveHeaders 31 rfl) co_X12_667 im_X12_isRightHeader se_X12_isRightHeader rfl hO3 h8 (by omega) (c_irH hv6 hk0 hmn hI hl4 h78 hn hnl hJI (by omega) hci hec ha ck hFF3 h5) rfl (by decide) ⟨Nat.le_refl _, Nat.le_refl _⟩ (Nat.le_of_ble_eq_true rfl) rfl (fun r9 z9 M4 hp9 => ?_)
          obtain ⟨rfl, rfl, hno4, hso4⟩ := hp9
          cases hT9 : hhT (ksB S) (hhd l i) (en, b, a) with
          | none =>
            try rw [hT9]
            have hF4 := hno4 hT9
            refine hz_eqi (pc := 57) (show _ = nI 0 from rfl) ?_
            refine hz_z_ne (pc := 57) (tgt := 63) (hz_dec kX12_receiveHeaders 32 rfl) (by decide) (by omega) (fun h3 => ?_) (fun h3 => ?_)
            · skip
              exact absurd h3 (by omega)
            · skip
              refine hz_goto (pc := 60) (tgt := 72) (hz_dec kX12_receiveHeaders 33 rfl) (by decide) ?_
              refine hz_pick (pc := 72) [2, 3, 4, 5] rfl ?_
              exact c_rh_e hv6 hto hk0 hmg hmn hI hl4 h78 h92 hn hnl hF4 (by omega) ha (hZ.trans (hhQ_n hT9))
          | some s2 =>
            try rw [hT9]
            have hF4 := hso4 s2 hT9
            have hJ4 := hhT_I hJI hT9
            obtain ⟨en2, b2, a2⟩ := s2
            have hc4 : en2.length = (ksB S).length + (c + 1) ∧ a2.length = 32 * (c + 1) := by
              unfold hhT at hT9
              rw [if_neg ck] at hT9
              split at hT9
              · cases hT9
              · split at hT9
                · cases hT9; exact ⟨by rw [List.length_append, hec]; rfl, by rw [List.length_append, hhH_len, ha]; omega⟩
                · cases hT9
            refine hz_eqi (pc := 57) (show _ = nI 1 from rfl) ?_
            refine hz_z_ne (pc := 57) (tgt := 63) (hz_dec kX12_receiveHeaders 32 rfl) (by decide) (by omega) (fun h3 => ?_) (fun h3 => ?_)
            · skip
              refine hz_incN (pc := 63) (i := 3) (lo2 := [(3, .int (nI (c + 1))), (5, .int (nI (80 * i))), (4, .int (nI i)), (0, .ref B), (1, .int (nI v)), (2, .int fr)]) 2 (hz_dec kX12_receiveHeaders 34 rfl) rfl (by decide) rfl ?_
              refine hz_incN (pc := 66) (i := 4) (lo2 := [(4, .int (nI (i + 1))), (3, .int (nI (c + 1))), (5, .int (nI (80 * i))), (0, .ref B), (1, .int (nI v)), (2, .int fr)]) 2 (hz_dec kX12_receiveHeaders 35 rfl) rfl (by decide) rfl ?_
              refine hz_goto (pc := 69) (tgt := 5) (hz_dec kX12_receiveHeaders 36 rfl) (by decide) ?_
              refine hz_pick (pc := 5) [0, 1, 3, 4, 5] rfl ?_
              exact ih (i + 1) en2 b2 a2 (c + 1) M4 (by omega) (by omega) hF4 hJ4 (by omega) hc4.1 hc4.2 (hZ.trans (hhQ_s hT9))
            · skip
              exact absurd h3 (by omega)
set_option maxHeartbeats 4000000 in
set_option maxRecDepth 100000 in
theorem c_rHead {κ : hz_C} {z B nn v : Nat} {now fr : Int32} {dl : Nat → Nat} (hv6 : v < 6) {d : Nat} (hto : (∃ b, b < 6 ∧ fr = nI b ∧ d = dl (6 * v + b)) ∨ (fr < 0 ∧ d = 0)) {M : hz_M} {S : ks_S} {l : by_L} (hk0 : md_k B M z) (hmg : mgR M B nn now dl (ksQ S)) (hmn : mnB M B v (ksB S) (enB (ksB S)) (ksT S)) (hI : ksI S) (hl4 : l.length ≤ 4000) (h78 : isA (fA M B 78) 0 l) (h92 : fdB M B 92 = some (.int (nI l.length))) {n : Nat} (hn : n ≤ 16) (hnl : 80 * n = l.length) (hE : mdE M B) : hz_Mt κ xX12_receiveHeaders 5 0 0 [.ref B, .int (nI v), .int fr] z M (fun r z2 M2 => none = r ∧ z = z2 ∧ mfr B [86, 87, 88] [3, 4, 5, 7, 10, 11, 37, 38, 39, 40, 41, 42, 70, 71, 72, 73, 74, 75, 76] M M2 ∧ mdE M2 B ∧ mgR M2 B nn now dl (hsQ now v fr d S l n)) := by
  refine hz_ent (lo := [(0, .ref B), (1, .int (nI v)), (2, .int fr)]) (by decide) (Nat.le_of_ble_eq_true rfl) rfl ?_
  refine hz_iconst (pc := 0) (v := nI 0) (hz_dec kX12_receiveHeaders 0 rfl) (by decide) ?_
  refine hz_istoren (pc := 1) (i := 3) (lo2 := [(3, .int (nI 0)), (0, .ref B), (1, .int (nI v)), (2, .int fr)]) (hz_dec kX12_receiveHeaders 1 rfl) rfl (by decide) rfl ?_
  refine hz_iconst (pc := 2) (v := nI 0) (hz_dec kX12_receiveHeaders 2 rfl) (by decide) ?_
  refine hz_istore (pc := 3) (i := 4) (lo2 := [(4, .int (nI 0)), (3, .int (nI 0)), (0, .ref B), (1, .int (nI v)), (2, .int fr)]) (hz_dec kX12_receiveHeaders 3 rfl) (by decide) rfl ?_
  refine hz_pick (pc := 5) [0, 1, 2, 3, 4] rfl ?_
  exact c_rh_l hv6 hto hk0 hmg hmn hI hl4 h78 h92 hn hnl n 0 _ false [] 0 M rfl (Nat.zero_le _) ⟨mfr.rf hk0.1, hE, hmn.1, isA_nil _ _⟩ (hhI0 hI.1.2.2.2.2.1) (Nat.le_refl _) (enB_len _) rfl rfl
