set_option maxHeartbeats 4000000 in
set_option maxRecDepth 100000 in
theorem l_isB {κ : hz_C} {z : Nat} {M : hz_M} {B : Nat} {P : hz_P} {fs : List Value} (hO : M B = .inr (12, fs)) (hF : md_F B fs) (h8 : 8 ≤ B) (hz : B + 88 ≤ z) {s0 : Nat → Int32} (hS : M (B + 14) = .inl (0, 9, .inl s0)) {b n : Nat} {f : Nat → Int32} (hM : M b = .inl (1, n, .inl f)) (hb8 : 8 ≤ b) (hbz : b < z) (hn : n < 2 ^ 29) {e : Nat} (he : e ≤ n) (hbB : b ≠ B) (hbs : b ≠ B + 14) {m : Nat} (hm : bb (f 80) = m) (h0 : 81 ≤ e) (h1 : bb (f 64) < 128) (h2 : 1 ≤ m ∧ m ≤ 8) (K0 : ∀ s : Nat → Int32, bk_n f e = 0 → P (some (.int (nI 0))) z (va_up (va_up M B (.inr (12, (List.set fs 16 (.int (nI 0)))))) (B + 14) (.inl (0, 9, .inl (s))))) (K2 : ∀ s : Nat → Int32, bk_n f e = 0 → P (some (.int (nI 0))) z (va_up (va_up (va_up M B (.inr (12, (List.set fs 16 (.int (nI 0)))))) (B + 14) (.inl (0, 9, .inl (s)))) B (.inr (12, (List.set (List.set fs 16 (.int (nI 0))) 16 (.int (nI m))))))) (K1 : ∀ s : Nat → Int32, bk_n f e = m → (∀ j, j ≤ m → s j = nI (bk_st f e j)) → P (some (.int (nI 1))) z (va_up (va_up (va_up M B (.inr (12, (List.set fs 16 (.int (nI 0)))))) (B + 14) (.inl (0, 9, .inl (s)))) B (.inr (12, (List.set (List.set fs 16 (.int (nI 0))) 16 (.int (nI m))))))) : ∀ k i s, k = m - i → i ≤ m → bk_ok f e i = true → (∀ j, j < i → s j = nI (bk_st f e j)) → hz_W κ xX12_isBlock 1 0 0 P 0 0 56 [(6, .int (nI i)), (5, .int (nI (bk_st f e i))), (4, .int (nI m)), (0, .ref B), (1, .ref b), (2, .int (nI 0)), (3, .int (nI e))] [] z (va_up (va_up M B (.inr (12, (List.set fs 16 (.int (nI 0)))))) (B + 14) (.inl (0, 9, .inl (s)))) := by
  intro k
  induction k using Nat.strongRecOn with
  | ind k ih =>
  intro i s hk hi hok hs
  have hle := bk_st_le h0 i hok
  refine hz_iload (pc := 56) 0 (hz_dec kX12_isBlock 36 rfl) rfl ?_
  refine hz_iload (pc := 58) 2 (hz_dec kX12_isBlock 37 rfl) rfl ?_
  refine hz_n_ge (pc := 60) (tgt := 106) (hz_dec kX12_isBlock 38 rfl) (by decide) (by omega) (by omega) (fun h4 => ?_) (fun h4 => ?_)
  · skip
    have ei : i = m := by omega
    subst ei
    refine hz_aloadn (pc := 106) 3 (hz_dec kX12_isBlock 63 rfl) rfl ?_
    refine hz_get (pc := 107) (v := .ref (B + 14)) (hz_dec kX12_isBlock 64 rfl) fo_X12_51 (hz_mne (va_up_self _ _ _) (by omega)) h8 (by omega) ((md_set hF rfl).2 15 (by decide) (by decide)) ?_
    refine hz_iload (pc := 110) 2 (hz_dec kX12_isBlock 65 rfl) rfl ?_
    refine hz_iload (pc := 112) 1 (hz_dec kX12_isBlock 66 rfl) rfl ?_
    refine hz_iast (pc := 114) (j := i) (hz_dec kX12_isBlock 67 rfl) (va_up_self _ _ _) (by omega) (by omega) rfl (by omega) (by decide) ?_
    refine hz_mem (pc := 115) (M2 := (va_up (va_up M B (.inr (12, (List.set fs 16 (.int (nI 0)))))) (B + 14) (.inl (0, 9, .inl (upd s i ((nI (bk_st f e i)))))))) (bx_uu _ _ _ _) ?_
    refine hz_aloadn (pc := 115) 3 (hz_dec kX12_isBlock 68 rfl) rfl ?_
    refine hz_iload (pc := 116) 2 (hz_dec kX12_isBlock 69 rfl) rfl ?_
    refine hz_puti (pc := 118) (hz_dec kX12_isBlock 70 rfl) fo_X12_409 ft_X12_16 (hz_mne (va_up_self _ _ _) (by omega)) h8 (by omega) (by rw [(md_set hF rfl).1]; decide) ?_
    refine hz_iload (pc := 121) 1 (hz_dec kX12_isBlock 71 rfl) rfl ?_
    refine hz_iloadn (pc := 123) 5 (hz_dec kX12_isBlock 72 rfl) rfl ?_
    refine hz_iloadn (pc := 124) 6 (hz_dec kX12_isBlock 73 rfl) rfl ?_
    refine hz_addN (pc := 125) (hz_dec kX12_isBlock 74 rfl) ?_
    refine hz_n_ne (pc := 126) (tgt := 133) (hz_dec kX12_isBlock 75 rfl) (by decide) (by omega) (by omega) (fun h5 => ?_) (fun h5 => ?_)
    · skip
      refine hz_iconst (pc := 133) (v := nI 0) (hz_dec kX12_isBlock 78 rfl) (by decide) ?_
      exact hz_zret (pc := 134) (hz_dec kX12_isBlock 79 rfl) rfl rfl (K2 _ (bk_3 hm (fun q => h5 (by omega))))
    · skip
      refine hz_iconst (pc := 129) (v := nI 1) (hz_dec kX12_isBlock 76 rfl) (by decide) ?_
      refine hz_goto (pc := 130) (tgt := 134) (hz_dec kX12_isBlock 77 rfl) (by decide) ?_
      exact hz_zret (pc := 134) (hz_dec kX12_isBlock 79 rfl) rfl rfl (K1 _ (bk_4 hm h0 h1 h2 ⟨hok, by omega⟩) (upd_le (g := fun j => nI (bk_st f e j)) hs))
  · skip
    refine hz_aloadn (pc := 63) 4 (hz_dec kX12_isBlock 39 rfl) rfl ?_
    refine hz_iload (pc := 64) 1 (hz_dec kX12_isBlock 40 rfl) rfl ?_
    refine hz_iloadn (pc := 66) 5 (hz_dec kX12_isBlock 41 rfl) rfl ?_
    refine hz_iloadn (pc := 67) 6 (hz_dec kX12_isBlock 42 rfl) rfl ?_
    refine hz_addN (pc := 68) (hz_dec kX12_isBlock 43 rfl) ?_
    refine hz_iload (pc := 69) 1 (hz_dec kX12_isBlock 44 rfl) rfl ?_
    refine hz_subN (pc := 71) (hz_dec kX12_isBlock 45 rfl) (by omega) ?_
    rw [show (0 + e) - (bk_st f e i) = e - bk_st f e i by omega]
    refine hz_xS (pc := 72) (As := [.ref b, .int (nI (bk_st f e i)), .int (nI (e - bk_st f e i))]) (st := []) (hz_dec kX12_isBlock 46 rfl) co_X12_405 sc_X12_transactionSize (c_mts (hz_mne (hz_mne hM hbB) hbs) hb8 hbz (by omega) (by omega)) rfl (by decide) ⟨Nat.le_refl _, Nat.le_refl _⟩ (Nat.le_of_ble_eq_true rfl) rfl ?_
    have hee : bk_st f e i + (e - bk_st f e i) = e := by omega
    have htl := tx_len_le f (bk_st f e i) e
    have hte := tx_len_e f (bk_st f e i) e
    by_cases h5 : tx_len f (bk_st f e i) e = 0
    · have q1 : md_ts f (bk_st f e i) (e - bk_st f e i) = -1 := md_ts0 (by rw [hee]; exact h5)
      refine hz_eqi (pc := 75) q1 ?_
      refine hz_istore (pc := 75) (i := 7) (lo2 := [(7, .int (-1)), (6, .int (nI i)), (5, .int (nI (bk_st f e i))), (4, .int (nI m)), (0, .ref B), (1, .ref b), (2, .int (nI 0)), (3, .int (nI e))]) (hz_dec kX12_isBlock 47 rfl) (by decide) rfl ?_
      refine hz_iload (pc := 77) 0 (hz_dec kX12_isBlock 48 rfl) rfl ?_
      refine hz_if_ge (pc := 79) (tgt := 84) (hz_dec kX12_isBlock 49 rfl) (by decide) (fun h6 => ?_) (fun h6 => ?_)
      · skip
        exact absurd h6 (by decide)
      · skip
        refine hz_iconst (pc := 82) (v := nI 0) (hz_dec kX12_isBlock 50 rfl) (by decide) ?_
        exact hz_zret (pc := 83) (hz_dec kX12_isBlock 51 rfl) rfl rfl (K0 _ (bk_3 hm (fun q => by rw [bk_ok_f h5 m h4] at q; exact absurd q.1 (by decide))))
    · have q1 : md_ts f (bk_st f e i) (e - bk_st f e i) = nI (tx_len f (bk_st f e i) e) := md_ts1 (by rw [hee]) h5
      refine hz_eqi (pc := 75) q1 ?_
      refine hz_istore (pc := 75) (i := 7) (lo2 := [(7, .int (nI (tx_len f (bk_st f e i) e))), (6, .int (nI i)), (5, .int (nI (bk_st f e i))), (4, .int (nI m)), (0, .ref B), (1, .ref b), (2, .int (nI 0)), (3, .int (nI e))]) (hz_dec kX12_isBlock 47 rfl) (by decide) rfl ?_
      refine hz_iload (pc := 77) 0 (hz_dec kX12_isBlock 48 rfl) rfl ?_
      refine hz_z_ge (pc := 79) (tgt := 84) (hz_dec kX12_isBlock 49 rfl) (by decide) (by omega) ?_
      refine hz_aloadn (pc := 84) 4 (hz_dec kX12_isBlock 52 rfl) rfl ?_
      refine hz_get (pc := 85) (v := .ref (B + 14)) (hz_dec kX12_isBlock 53 rfl) fo_X12_51 (hz_mne (va_up_self _ _ _) (by omega)) h8 (by omega) ((md_set hF rfl).2 15 (by decide) (by decide)) ?_
      refine hz_iload (pc := 88) 1 (hz_dec kX12_isBlock 54 rfl) rfl ?_
      refine hz_iload (pc := 90) 2 (hz_dec kX12_isBlock 55 rfl) rfl ?_
      refine hz_iast (pc := 92) (j := i) (hz_dec kX12_isBlock 56 rfl) (va_up_self _ _ _) (by omega) (by omega) rfl (by omega) (by decide) ?_
      refine hz_mem (pc := 93) (M2 := (va_up (va_up M B (.inr (12, (List.set fs 16 (.int (nI 0)))))) (B + 14) (.inl (0, 9, .inl (upd s i ((nI (bk_st f e i)))))))) (bx_uu _ _ _ _) ?_
      refine hz_iload (pc := 93) 2 (hz_dec kX12_isBlock 57 rfl) rfl ?_
      refine hz_iload (pc := 95) 0 (hz_dec kX12_isBlock 58 rfl) rfl ?_
      refine hz_addN (pc := 97) (hz_dec kX12_isBlock 59 rfl) ?_
      refine hz_istore (pc := 98) (i := 5) (lo2 := [(5, .int (nI ((bk_st f e i) + (tx_len f (bk_st f e i) e)))), (7, .int (nI (tx_len f (bk_st f e i) e))), (6, .int (nI i)), (4, .int (nI m)), (0, .ref B), (1, .ref b), (2, .int (nI 0)), (3, .int (nI e))]) (hz_dec kX12_isBlock 60 rfl) (by decide) rfl ?_
      refine hz_incN (pc := 100) (i := 6) (lo2 := [(6, .int (nI (i + 1))), (5, .int (nI ((bk_st f e i) + (tx_len f (bk_st f e i) e)))), (7, .int (nI (tx_len f (bk_st f e i) e))), (4, .int (nI m)), (0, .ref B), (1, .ref b), (2, .int (nI 0)), (3, .int (nI e))]) 2 (hz_dec kX12_isBlock 61 rfl) rfl (by decide) rfl ?_
      refine hz_goto (pc := 103) (tgt := 56) (hz_dec kX12_isBlock 62 rfl) (by decide) ?_
      refine hz_pick (pc := 56) [0, 1, 3, 4, 5, 6, 7] rfl ?_
      refine ih (m - (i + 1)) (by omega) (i + 1) _ rfl (by omega) (by simp only [bk_ok, hok, Bool.true_and, decide_eq_true_eq]; exact h5) (fun j hj => ?_)
      simp only [upd]
      split
      · next e1 => subst e1; rfl
      · exact hs j (by omega)
def md_bP (M : hz_M) (z B : Nat) (fs : List Value) (f : Nat → Int32) (e : Nat) : hz_P := fun r z2 M2 => some (.int (hz_b (decide (¬ bk_n f e = 0)))) = r ∧ z = z2 ∧ frl B [0, 14] M M2 ∧ ∃ (s : Nat → Int32) (pcn : Int32), M2 B = .inr (12, List.set fs 16 (.int pcn)) ∧ M2 (B + 14) = .inl (0, 9, .inl s) ∧ (¬ bk_n f e = 0 → pcn = nI (bk_n f e) ∧ ∀ j, j ≤ bk_n f e → s j = nI (bk_st f e j))
set_option maxHeartbeats 4000000 in
set_option maxRecDepth 100000 in
theorem c_isB {κ : hz_C} {z : Nat} {M : hz_M} {B : Nat} {fs : List Value} (hO : M B = .inr (12, fs)) (hF : md_F B fs) (h8 : 8 ≤ B) (hz : B + 88 ≤ z) {s0 : Nat → Int32} (hS : M (B + 14) = .inl (0, 9, .inl s0)) {b n : Nat} {f : Nat → Int32} (hM : M b = .inl (1, n, .inl f)) (hb8 : 8 ≤ b) (hbz : b < z) (hn : n < 2 ^ 29) {e : Nat} (he : e ≤ n) : hz_Mt κ xX12_isBlock 1 0 0 [.ref B, .ref b, .int (nI 0), .int (nI e)] z M (md_bP M z B fs f e) := by
  refine hz_ent (lo := [(0, .ref B), (1, .ref b), (2, .int (nI 0)), (3, .int (nI e))]) (by decide) (Nat.le_of_ble_eq_true rfl) rfl ?_
  have hbs : b ≠ B + 14 := hz_tt hM hS (by decide)
  have hbB : b ≠ B := Ne.symm (hz_oa hO hM)
  refine hz_bytes hM hb8 hbz (fun hby => ?_)
  have hfr : ∀ (c1 c2 : va_E), frl B [0, 14] M (va_up (va_up M B c1) (B + 14) c2) := fun c1 c2 => (frl.up (B := B) (o := 0) (os := [0, 14]) rfl).tr (os3 := [0, 14]) (frl.up (os := [0, 14]) rfl) rfl rfl
  have K0 : ∀ s : Nat → Int32, bk_n f e = 0 → md_bP M z B fs f e (some (.int (nI 0))) z (va_up (va_up M B (.inr (12, (List.set fs 16 (.int (nI 0)))))) (B + 14) (.inl (0, 9, .inl (s)))) := fun s h => ⟨by rw [h]; rfl, rfl, hfr _ _, s, nI 0, hz_mne (va_up_self _ _ _) (by omega), va_up_self _ _ _, fun q => absurd h q⟩
  have K00 : bk_n f e = 0 → md_bP M z B fs f e (some (.int (nI 0))) z (va_up M B (.inr (12, (List.set fs 16 (.int (nI 0)))))) := fun h => ⟨by rw [h]; rfl, rfl, frl.up (B := B) (o := 0) (os := [0, 14]) rfl, s0, nI 0, va_up_self _ _ _, hz_mne hS (by omega), fun q => absurd h q⟩
  refine hz_aloadn (pc := 0) 0 (hz_dec kX12_isBlock 0 rfl) rfl ?_
  refine hz_iconst (pc := 1) (v := nI 0) (hz_dec kX12_isBlock 1 rfl) (by decide) ?_
  refine hz_puti (pc := 2) (hz_dec kX12_isBlock 2 rfl) fo_X12_409 ft_X12_16 hO h8 (by omega) (by rw [hF.1]; decide) ?_
  refine hz_iloadn (pc := 5) 3 (hz_dec kX12_isBlock 3 rfl) rfl ?_
  refine hz_bipush (pc := 6) (v := nI 81) (hz_dec kX12_isBlock 4 rfl) (by decide) ?_
  refine hz_n_lt (pc := 8) (tgt := 20) (hz_dec kX12_isBlock 5 rfl) (by decide) (by omega) (by omega) (fun h0 => ?_) (fun h0 => ?_)
  · skip
    refine hz_iconst (pc := 20) (v := nI 0) (hz_dec kX12_isBlock 12 rfl) (by decide) ?_
    exact hz_zret (pc := 21) (hz_dec kX12_isBlock 13 rfl) rfl rfl (K00 (bk_0 (by omega)))
  · skip
    refine hz_aloadn (pc := 11) 1 (hz_dec kX12_isBlock 6 rfl) rfl ?_
    refine hz_iloadn (pc := 12) 2 (hz_dec kX12_isBlock 7 rfl) rfl ?_
    refine hz_bipush (pc := 13) (v := nI 64) (hz_dec kX12_isBlock 8 rfl) (by decide) ?_
    refine hz_addN (pc := 15) (hz_dec kX12_isBlock 9 rfl) ?_
    refine hz_bald (pc := 16) (j := 0 + 64) (hz_dec kX12_isBlock 10 rfl) (hz_mne hM hbB) hb8 hbz rfl (by omega) (by omega) ?_
    refine hz_if_ge (pc := 17) (tgt := 22) (hz_dec kX12_isBlock 11 rfl) (by decide) (fun h2 => ?_) (fun h2 => ?_)
    · skip
      have h8b : bb (f 64) < 128 := by have q9 := by_neg (hby 64 (by omega)); rcases Nat.lt_or_ge (bb (f 64)) 128 with r | r; exact r; exact absurd (q9.mpr r) (Int32.not_lt.mpr h2)
      refine hz_aloadn (pc := 22) 1 (hz_dec kX12_isBlock 14 rfl) rfl ?_
      refine hz_iloadn (pc := 23) 2 (hz_dec kX12_isBlock 15 rfl) rfl ?_
      refine hz_bipush (pc := 24) (v := nI 80) (hz_dec kX12_isBlock 16 rfl) (by decide) ?_
      refine hz_addN (pc := 26) (hz_dec kX12_isBlock 17 rfl) ?_
      refine hz_bald (pc := 27) (j := 0 + 80) (hz_dec kX12_isBlock 18 rfl) (hz_mne hM hbB) hb8 hbz rfl (by omega) (by omega) ?_
      have hb0 := hby 80 (by omega)
      generalize hm : bb (f 80) = m
      have hml : m < 256 := hm ▸ bb_lt _
      rcases Nat.lt_or_ge m 128 with hm8 | hm8
      · refine hz_eqi (pc := 28) (w := nI m) ((by_pos hb0 (by omega)).trans (by rw [hm])) ?_
        refine hz_istore (pc := 28) (i := 4) (lo2 := [(4, .int (nI m)), (0, .ref B), (1, .ref b), (2, .int (nI 0)), (3, .int (nI e))]) (hz_dec kX12_isBlock 19 rfl) (by decide) rfl ?_
        refine hz_iload (pc := 30) 0 (hz_dec kX12_isBlock 20 rfl) rfl ?_
        refine hz_iconst (pc := 32) (v := nI 1) (hz_dec kX12_isBlock 21 rfl) (by decide) ?_
        refine hz_n_lt (pc := 33) (tgt := 43) (hz_dec kX12_isBlock 22 rfl) (by decide) (by omega) (by omega) (fun h3 => ?_) (fun h3 => ?_)
        · skip
          refine hz_iconst (pc := 43) (v := nI 0) (hz_dec kX12_isBlock 26 rfl) (by decide) ?_
          exact hz_zret (pc := 44) (hz_dec kX12_isBlock 27 rfl) rfl rfl (K00 (bk_2 hm (by omega)))
        · skip
          refine hz_iload (pc := 36) 0 (hz_dec kX12_isBlock 23 rfl) rfl ?_
          refine hz_bipush (pc := 38) (v := nI 8) (hz_dec kX12_isBlock 24 rfl) (by decide) ?_
          refine hz_n_le (pc := 40) (tgt := 45) (hz_dec kX12_isBlock 25 rfl) (by decide) (by omega) (by omega) (fun h4 => ?_) (fun h4 => ?_)
          · skip
            refine hz_iloadn (pc := 45) 3 (hz_dec kX12_isBlock 28 rfl) rfl ?_
            refine hz_bipush (pc := 46) (v := nI 80) (hz_dec kX12_isBlock 29 rfl) (by decide) ?_
            refine hz_addN (pc := 48) (hz_dec kX12_isBlock 30 rfl) ?_
            refine hz_iconst (pc := 49) (v := nI 1) (hz_dec kX12_isBlock 31 rfl) (by decide) ?_
            refine hz_addN (pc := 50) (hz_dec kX12_isBlock 32 rfl) ?_
            refine hz_istore (pc := 51) (i := 5) (lo2 := [(5, .int (nI ((0 + 80) + 1))), (4, .int (nI m)), (0, .ref B), (1, .ref b), (2, .int (nI 0)), (3, .int (nI e))]) (hz_dec kX12_isBlock 33 rfl) (by decide) rfl ?_
            refine hz_iconst (pc := 53) (v := nI 0) (hz_dec kX12_isBlock 34 rfl) (by decide) ?_
            refine hz_istore (pc := 54) (i := 6) (lo2 := [(6, .int (nI 0)), (5, .int (nI ((0 + 80) + 1))), (4, .int (nI m)), (0, .ref B), (1, .ref b), (2, .int (nI 0)), (3, .int (nI e))]) (hz_dec kX12_isBlock 35 rfl) (by decide) rfl ?_
            refine hz_pick (pc := 56) [0, 1, 2, 3, 4, 5, 6] rfl ?_
            have hS1 : (va_up M B (.inr (12, (List.set fs 16 (.int (nI 0)))))) (B + 14) = .inl (0, 9, .inl s0) := hz_mne hS (by omega)
            refine hz_mem (hz_upid hS1).symm ?_
            have hfs : List.set (List.set fs 16 (.int (nI 0))) 16 (.int (nI m)) = List.set fs 16 (.int (nI m)) := List.set_set _
            have hfr2 : ∀ (c1 c2 c3 : va_E), frl B [0, 14] M (va_up (va_up (va_up M B c1) (B + 14) c2) B c3) := fun c1 c2 c3 => (hfr c1 c2).tr (frl.up (B := B) (o := 0) (os := [0, 14]) rfl) rfl rfl
            refine l_isB hO hF h8 hz hS hM hb8 hbz hn he hbB hbs hm (by omega) h8b (by omega) K0 (fun s h => ⟨by rw [h]; rfl, rfl, hfr2 _ _ _, s, nI m, by rw [← hfs]; exact va_up_self _ _ _, hz_mne (va_up_self _ _ _) (by omega), fun q => absurd h q⟩) (fun s h1 h2 => ⟨?_, rfl, hfr2 _ _ _, s, nI m, by rw [← hfs]; exact va_up_self _ _ _, hz_mne (va_up_self _ _ _) (by omega), fun _ => by rw [h1]; exact ⟨rfl, h2⟩⟩) m 0 s0 rfl (by omega) rfl (fun j hj => absurd hj (by omega))
            rw [h1, show decide (¬ m = 0) = true from decide_eq_true (by omega)]; rfl
          · skip
            refine hz_iconst (pc := 43) (v := nI 0) (hz_dec kX12_isBlock 26 rfl) (by decide) ?_
            exact hz_zret (pc := 44) (hz_dec kX12_isBlock 27 rfl) rfl rfl (K00 (bk_2 hm (by omega)))
      · have hneg := (by_neg hb0).mpr (by omega)
        refine hz_istore (pc := 28) (i := 4) (lo2 := [(4, .int (f (0 + 80))), (0, .ref B), (1, .ref b), (2, .int (nI 0)), (3, .int (nI e))]) (hz_dec kX12_isBlock 19 rfl) (by decide) rfl ?_
        refine hz_iload (pc := 30) 0 (hz_dec kX12_isBlock 20 rfl) rfl ?_
        refine hz_iconst (pc := 32) (v := nI 1) (hz_dec kX12_isBlock 21 rfl) (by decide) ?_
        refine hz_icmp_lt (pc := 33) (tgt := 43) (hz_dec kX12_isBlock 22 rfl) (by decide) (fun h3 => ?_) (fun h3 => ?_)
        · skip
          refine hz_iconst (pc := 43) (v := nI 0) (hz_dec kX12_isBlock 26 rfl) (by decide) ?_
          exact hz_zret (pc := 44) (hz_dec kX12_isBlock 27 rfl) rfl rfl (K00 (bk_2 hm (by omega)))
        · skip
          exact absurd (Int32.lt_trans hneg (by decide)) h3
    · skip
      have h8b : 128 ≤ bb (f 64) := (by_neg (hby 64 (by omega))).mp (Int32.not_le.mp h2)
      refine hz_iconst (pc := 20) (v := nI 0) (hz_dec kX12_isBlock 12 rfl) (by decide) ?_
      exact hz_zret (pc := 21) (hz_dec kX12_isBlock 13 rfl) rfl rfl (K00 (bk_1 h8b))
