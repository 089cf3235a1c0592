/-! charAt -/
theorem hq_bl3 (κ : hz_C) (i n z : Nat) (M : hz_M) : FrameBlind (hq_P3 κ i n z M) := by
  intro a U g mk h
  obtain ⟨h1, h2, h3, h4, h5⟩ := h
  exact ⟨h1, h2, va_K.moved (u := U) (U := U.calling g mk a) (Vm.Alike.refl U.vm) h3, h4.calls g mk a, h5⟩
theorem hq_chk {κ : hz_C} {d mc ms : Nat} {P : hz_P} {cn sn : Nat} {lo : List (Nat × Value)} {z : Nat} {M : hz_M} {i n : Nat} (hi : i < n) (hn : n < 2 ^ 31) (hd1 : 1 ≤ d) (hrm : cn ≤ mc ∧ sn ≤ ms) (kk : hq_W κ xJ0_checkIndex_df160 d mc ms P cn sn 8 lo [.int (nI i)] z M) : hq_W κ xJ0_checkIndex_df160 d mc ms P cn sn 2 lo [.int (nI n), .int (nI i)] z M := by
  intro p e s m args below meth c H locs ls F hzq hwd hS hl
  have key : ∀ w : Value, (w = .null ∨ ∃ t, w = .ref t) → va_Z "jdk/internal/util/Preconditions" "SIOOBE_FORMATTER" "Ljava/util/function/BiFunction;" w (hz_A κ) s s.heap → W p κ.1 e (hz_rm d mc ms) s m args below meth c H locs cn sn (MQ below (hz_Q κ P) args s mc ms (hz_A κ)) (F0 m 2 ls (([.int (nI n), .int (nI i)] : List Value).map (hz_rv κ))) := by
    intro w hw hz
    refine va_gets F.1 F.2.1 hz hS F.2.2.2.1 (F.2.2.2.2.1 _ (List.mem_cons_of_mem _ (hz_inT fl_si rfl))) (fun _ h9 => h9) (hz_dec kJ0_checkIndex_df160 2 rfl) ?_
    refine hz_back (rest := []) (P2 := hz_ex (some (.int (nI i))) z M) (mc2 := 0) (ms2 := 0) (va_runS (As := [.int (nI i), .int (nI n), w]) ⟨F.1, F.2.1, F.2.2.1, F.2.2.2.1, F.2.2.2.2.1⟩ (cJ3 (κ := κ) (z := z) (M := M) hi hn) ⟨hz_cb F co_J0_1059 (d2 := 0) hd1 rfl, F.2.2.2.2.1 _ (List.mem_cons_of_mem _ (hz_inT sc_J3_checkIndex_8e157 rfl))⟩ ⟨hq_bl3 κ i n z M, fun U hU hW => ⟨⟨w, hw, rfl⟩, by rw [hU]; exact hwd, va_K.moved hW.alike F.2.2.2.2.2.2.2.2.2.1, by rw [hU]; exact F.2.2.2.2.2.2.2.2.2.2.warm hW hS.2.1, F.2.2.2.2.2.2.2.2.1⟩⟩ rfl rfl hl.1 rfl (lv_room (show (([] : List Value).map fun v => v.category).sum ≤ 8 by decide)) (hz_dec kJ0_checkIndex_df160 3 rfl) hrm) hS (fun r z2 M2 H1 locs1 hp hw2 hS2 => ?_)
    obtain ⟨rfl, rfl, rfl⟩ := hp
    exact kk p e s m args below meth c H1 locs1 ls F hzq hw2 hS2 hl
  rcases id hzq with h | ⟨t, h⟩
  · exact key .null (Or.inl rfl) h
  · exact key (.ref t) (Or.inr ⟨t, rfl⟩) h
theorem cJ0_chk {κ : hz_C} {z : Nat} {M : hz_M} {i n : Nat} (hi : i < n) (hn : n < 2 ^ 31) : hq_Mt κ xJ0_checkIndex_df160 1 0 0 [.int (nI i), .int (nI n)] z M (hz_ex none z M) := by
  refine hq_ent (lo := [(0, .int (nI i)), (1, .int (nI n))]) (by decide) (Nat.le_of_ble_eq_true rfl) rfl ?_
  refine hq_iloadn (pc := 0) 0 (hz_dec kJ0_checkIndex_df160 0 rfl) rfl ?_
  refine hq_iloadn (pc := 1) 1 (hz_dec kJ0_checkIndex_df160 1 rfl) rfl ?_
  refine hq_chk hi hn (by decide) ⟨Nat.le_refl _, Nat.le_refl _⟩ ?_
  refine hq_pop (pc := 8) (hz_dec kJ0_checkIndex_df160 4 rfl) rfl ?_
  exact hq_vret (pc := 9) (hz_dec kJ0_checkIndex_df160 5 rfl) rfl ⟨rfl, rfl, rfl⟩
def txN (t : Nat) : Nat := ([64, 512] : List Nat).getD t 0
def txC (t j : Nat) : Int32 := (((([hz_tb0, hz_tb1] : List (List Int32)).getD t []).getD j 0 &&& nI 255).toUInt32 % 65536).toInt32
theorem txC_n : ∀ t, t < 2 → ∀ j, j < 512 → ((txC t j).toUInt32 % 65536).toInt32 = txC t j := by decide +kernel
theorem txN_l : ∀ t, t < 2 → txN t ≤ 512 := by decide
theorem cJ1 {κ : hz_C} {z : Nat} {M : hz_M} {t j : Nat} (ht : t < 2) (hj : j < txN t) : hq_Mt κ xJ1_charAt_3b067 2 0 0 [.ref (6 + t), .int (nI j)] z M (hz_ex (some (.int (txC t j))) z M) := by
  have hl := txN_l t ht
  refine hq_ent (lo := [(0, .ref (6 + t)), (1, .int (nI j))]) (by decide) (Nat.le_of_ble_eq_true rfl) rfl ?_
  refine hq_iloadn (pc := 0) 1 (hz_dec kJ1_charAt_3b067 0 rfl) rfl ?_
  refine hq_aloadn (pc := 1) 0 (hz_dec kJ1_charAt_3b067 1 rfl) rfl ?_
  refine hq_alenT (pc := 2) ht (hz_dec kJ1_charAt_3b067 2 rfl) ?_
  refine hq_callSQ (pc := 3) (As := [.int (nI j), .int (nI (txN t))]) (st := []) (hz_dec kJ1_charAt_3b067 3 rfl) co_J1_9 sc_J0_checkIndex_df160 (cJ0_chk hj (by omega)) rfl (by decide) ⟨Nat.le_refl _, Nat.le_refl _⟩ (Nat.le_of_ble_eq_true rfl) rfl (fun r9 z9 M9 hp9 => ?_)
  obtain ⟨rfl, rfl, rfl⟩ := hp9
  refine hq_aloadn (pc := 6) 0 (hz_dec kJ1_charAt_3b067 4 rfl) rfl ?_
  refine hq_iloadn (pc := 7) 1 (hz_dec kJ1_charAt_3b067 5 rfl) rfl ?_
  refine hq_baldT (pc := 8) ht hj (by omega) (hz_dec kJ1_charAt_3b067 6 rfl) ?_
  refine hq_sipush (pc := 9) (v := nI 255) (hz_dec kJ1_charAt_3b067 7 rfl) (by decide) ?_
  refine hq_iand (pc := 12) (hz_dec kJ1_charAt_3b067 8 rfl) ?_
  refine hq_i2c (pc := 13) (hz_dec kJ1_charAt_3b067 9 rfl) ?_
  exact hq_zret (pc := 14) (hz_dec kJ1_charAt_3b067 10 rfl) rfl (congrArg Value.int (txC_n t ht j (by omega))) ⟨rfl, rfl, rfl⟩
theorem cJ0_lat {κ : hz_C} {z : Nat} {M : hz_M} {t : Nat} (ht : t < 2) : hq_Mt κ xJ0_isLatin1_aae02 0 0 0 [.ref (4 + t)] z M (hz_ex (some (.int (nI 1))) z M) := by
  refine hq_ent (lo := [(0, .ref (4 + t))]) (by decide) (Nat.le_of_ble_eq_true rfl) rfl ?_
  refine hq_getC (pc := 0) rfl (hz_dec kJ0_isLatin1_aae02 0 rfl) ?_
  refine hq_if_eq (pc := 3) (tgt := 17) (hz_dec kJ0_isLatin1_aae02 1 rfl) (by decide) (fun h1 => ?_) (fun h1 => ?_)
  · exact absurd h1 (by decide)
  refine hq_aloadn (pc := 6) 0 (hz_dec kJ0_isLatin1_aae02 2 rfl) rfl ?_
  refine hq_coder (pc := 7) ht rfl (hz_dec kJ0_isLatin1_aae02 3 rfl) ?_
  refine hq_if_ne (pc := 10) (tgt := 17) (hz_dec kJ0_isLatin1_aae02 4 rfl) (by decide) (fun h1 => ?_) (fun h1 => ?_)
  · exact absurd h1 (by decide)
  refine hq_iconst (pc := 13) (v := nI 1) (hz_dec kJ0_isLatin1_aae02 5 rfl) (by decide) ?_
  refine hq_goto (pc := 14) (tgt := 18) (hz_dec kJ0_isLatin1_aae02 6 rfl) (by decide) ?_
  exact hq_zret (pc := 18) (hz_dec kJ0_isLatin1_aae02 8 rfl) rfl rfl ⟨rfl, rfl, rfl⟩
theorem cJ0 {κ : hz_C} {z : Nat} {M : hz_M} {t j : Nat} (ht : t < 2) (hj : j < txN t) : hq_Mt κ xJ0_charAt_5068e 3 0 0 [.ref (4 + t), .int (nI j)] z M (hz_ex (some (.int (txC t j))) z M) := by
  have hl := txN_l t ht
  refine hq_ent (lo := [(0, .ref (4 + t)), (1, .int (nI j))]) (by decide) (Nat.le_of_ble_eq_true rfl) rfl ?_
  refine hq_aloadn (pc := 0) 0 (hz_dec kJ0_charAt_5068e 0 rfl) rfl ?_
  refine hq_callTQ (t := t) (pc := 1) (As := []) (st := []) ht rfl (hz_dec kJ0_charAt_5068e 1 rfl) co_J0_492 im_J0_isLatin1_aae02 se_J0_isLatin1_aae02 (cJ0_lat ht) rfl (by decide) ⟨Nat.le_refl _, Nat.le_refl _⟩ (Nat.le_of_ble_eq_true rfl) rfl (fun r9 z9 M9 hp9 => ?_)
  obtain ⟨rfl, rfl, rfl⟩ := hp9
  refine hq_z_eq (pc := 4) (tgt := 16) (hz_dec kJ0_charAt_5068e 2 rfl) (by decide) (by decide) (fun h1 => ?_) (fun h1 => ?_)
  · exact absurd h1 (by decide)
  refine hq_aloadn (pc := 7) 0 (hz_dec kJ0_charAt_5068e 3 rfl) rfl ?_
  refine hq_value (pc := 8) ht rfl (hz_dec kJ0_charAt_5068e 4 rfl) ?_
  refine hq_iloadn (pc := 11) 1 (hz_dec kJ0_charAt_5068e 5 rfl) rfl ?_
  refine hq_callSQ (pc := 12) (As := [.ref (6 + t), .int (nI j)]) (st := []) (hz_dec kJ0_charAt_5068e 6 rfl) co_J0_495 sc_J1_charAt_3b067 (cJ1 ht hj) rfl (by decide) ⟨Nat.le_refl _, Nat.le_refl _⟩ (Nat.le_of_ble_eq_true rfl) rfl (fun r9 z9 M9 hp9 => ?_)
  obtain ⟨rfl, rfl, rfl⟩ := hp9
  exact hq_zret (pc := 15) (hz_dec kJ0_charAt_5068e 7 rfl) rfl (congrArg Value.int (txC_n t ht j (by omega))) ⟨rfl, rfl, rfl⟩
/-! the words that a text spells -/
def dcC (c : Int32) : Int32 := if c < nI 97 then c - nI 48 else c - nI 87
def wdF (t k : Nat) : Nat → Int32
  | 0 => nI 0
  | i + 1 => (wdF t k i <<< (nI 4 &&& 31)) ||| dcC (txC t (8 * k + i))
theorem wd_0 : ∀ k, k < 8 → wdF 0 k 8 = hz_sf 0 k := by decide +kernel
theorem wd_1 : ∀ k, k < 64 → wdF 1 k 8 = hz_sf 1 k := by decide +kernel
set_option maxHeartbeats 4000000 in
set_option maxRecDepth 100000 in
theorem c_wd_l {κ : hz_C} {z : Nat} {M : hz_M} {t k : Nat} (ht : t < 2) (hk : 8 * k + 8 ≤ txN t) : ∀ n i, n = 8 - i → i ≤ 8 → hq_W κ xX12_wordOf 4 0 0 (hz_ex (some (.int (wdF t k 8))) z M) 0 0 4 [(3, .int (nI i)), (2, .int (wdF t k i)), (0, .ref (4 + t)), (1, .int (nI k))] [] z M := by
  intro n
  induction n using Nat.strongRecOn with
  | ind n ih =>
  intro i hn hi
  have hl := txN_l t ht
  refine hq_iloadn (pc := 4) 0 (hz_dec kX12_wordOf 4 rfl) rfl ?_
  refine hq_bipush (pc := 5) (v := nI 8) (hz_dec kX12_wordOf 5 rfl) (by decide) ?_
  refine hq_n_ge (pc := 7) (tgt := 53) (hz_dec kX12_wordOf 6 rfl) (by decide) (by omega) (by omega) (fun h1 => ?_) (fun h1 => ?_)
  · skip
    have e : i = 8 := by omega
    subst e
    refine hq_iloadn (pc := 53) 1 (hz_dec kX12_wordOf 32 rfl) rfl ?_
    exact hq_iret (pc := 54) (hz_dec kX12_wordOf 33 rfl) rfl ⟨rfl, rfl, rfl⟩
  · skip
    refine hq_aloadn (pc := 10) 2 (hz_dec kX12_wordOf 7 rfl) rfl ?_
    refine hq_bipush (pc := 11) (v := nI 8) (hz_dec kX12_wordOf 8 rfl) (by decide) ?_
    refine hq_iloadn (pc := 13) 3 (hz_dec kX12_wordOf 9 rfl) rfl ?_
    refine hq_mulN (pc := 14) (hz_dec kX12_wordOf 10 rfl) ?_
    refine hq_iloadn (pc := 15) 0 (hz_dec kX12_wordOf 11 rfl) rfl ?_
    refine hq_addN (pc := 16) (hz_dec kX12_wordOf 12 rfl) ?_
    refine hq_callTQ (t := t) (pc := 17) (As := [.int (nI (8 * k + i))]) (st := []) ht rfl (hz_dec kX12_wordOf 13 rfl) co_X12_305 im_J0_charAt_5068e se_J0_charAt_5068e (cJ0 (j := 8 * k + i) ht (by omega)) rfl (by decide) ⟨Nat.le_refl _, Nat.le_refl _⟩ (Nat.le_of_ble_eq_true rfl) rfl (fun r9 z9 M9 hp9 => ?_)
    obtain ⟨rfl, rfl, rfl⟩ := hp9
    refine hq_istore (pc := 20) (i := 4) (lo2 := [(4, .int (txC t (8 * k + i))), (3, .int (nI i)), (2, .int (wdF t k i)), (0, .ref (4 + t)), (1, .int (nI k))]) (hz_dec kX12_wordOf 14 rfl) (by decide) rfl ?_
    refine hq_iloadn (pc := 22) 2 (hz_dec kX12_wordOf 15 rfl) rfl ?_
    refine hq_iconst (pc := 23) (v := nI 4) (hz_dec kX12_wordOf 16 rfl) (by decide) ?_
    refine hq_ishl (pc := 24) (hz_dec kX12_wordOf 17 rfl) ?_
    refine hq_iload (pc := 25) 0 (hz_dec kX12_wordOf 18 rfl) rfl ?_
    refine hq_bipush (pc := 27) (v := nI 97) (hz_dec kX12_wordOf 19 rfl) (by decide) ?_
    refine hq_icmp_lt (pc := 29) (tgt := 40) (hz_dec kX12_wordOf 20 rfl) (by decide) (fun h2 => ?_) (fun h2 => ?_)
    · skip
      refine hq_iload (pc := 40) 0 (hz_dec kX12_wordOf 25 rfl) rfl ?_
      refine hq_bipush (pc := 42) (v := nI 48) (hz_dec kX12_wordOf 26 rfl) (by decide) ?_
      refine hq_isub (pc := 44) (hz_dec kX12_wordOf 27 rfl) ?_
      have ed : dcC (txC t (8 * k + i)) = (txC t (8 * k + i)) - (nI (48)) := if_pos h2
      refine hq_eqi (pc := 45) ed.symm ?_
      refine hq_ior (pc := 45) (hz_dec kX12_wordOf 28 rfl) ?_
      refine hq_istoren (pc := 46) (i := 2) (lo2 := [(2, .int (((wdF t k i) <<< ((nI (4)) &&& 31)) ||| (dcC (txC t (8 * k + i))))), (4, .int (txC t (8 * k + i))), (3, .int (nI i)), (0, .ref (4 + t)), (1, .int (nI k))]) (hz_dec kX12_wordOf 29 rfl) rfl (by decide) rfl ?_
      refine hq_incN (pc := 47) (i := 3) (lo2 := [(3, .int (nI (i + 1))), (2, .int (((wdF t k i) <<< ((nI (4)) &&& 31)) ||| (dcC (txC t (8 * k + i))))), (4, .int (txC t (8 * k + i))), (0, .ref (4 + t)), (1, .int (nI k))]) 2 (hz_dec kX12_wordOf 30 rfl) rfl (by decide) rfl ?_
      refine hq_goto (pc := 50) (tgt := 4) (hz_dec kX12_wordOf 31 rfl) (by decide) ?_
      refine hq_pick (pc := 4) [0, 1, 3, 4] rfl ?_
      exact ih (8 - (i + 1)) (by omega) (i + 1) rfl (by omega)
    · skip
      refine hq_iload (pc := 32) 0 (hz_dec kX12_wordOf 21 rfl) rfl ?_
      refine hq_bipush (pc := 34) (v := nI 87) (hz_dec kX12_wordOf 22 rfl) (by decide) ?_
      refine hq_isub (pc := 36) (hz_dec kX12_wordOf 23 rfl) ?_
      refine hq_goto (pc := 37) (tgt := 45) (hz_dec kX12_wordOf 24 rfl) (by decide) ?_
      have ed : dcC (txC t (8 * k + i)) = (txC t (8 * k + i)) - (nI (87)) := if_neg h2
      refine hq_eqi (pc := 45) ed.symm ?_
      refine hq_ior (pc := 45) (hz_dec kX12_wordOf 28 rfl) ?_
      refine hq_istoren (pc := 46) (i := 2) (lo2 := [(2, .int (((wdF t k i) <<< ((nI (4)) &&& 31)) ||| (dcC (txC t (8 * k + i))))), (4, .int (txC t (8 * k + i))), (3, .int (nI i)), (0, .ref (4 + t)), (1, .int (nI k))]) (hz_dec kX12_wordOf 29 rfl) rfl (by decide) rfl ?_
      refine hq_incN (pc := 47) (i := 3) (lo2 := [(3, .int (nI (i + 1))), (2, .int (((wdF t k i) <<< ((nI (4)) &&& 31)) ||| (dcC (txC t (8 * k + i))))), (4, .int (txC t (8 * k + i))), (0, .ref (4 + t)), (1, .int (nI k))]) 2 (hz_dec kX12_wordOf 30 rfl) rfl (by decide) rfl ?_
      refine hq_goto (pc := 50) (tgt := 4) (hz_dec kX12_wordOf 31 rfl) (by decide) ?_
      refine hq_pick (pc := 4) [0, 1, 3, 4] rfl ?_
      exact ih (8 - (i + 1)) (by omega) (i + 1) rfl (by omega)
set_option maxHeartbeats 4000000 in
set_option maxRecDepth 100000 in
theorem c_wd {κ : hz_C} {z : Nat} {M : hz_M} {t k : Nat} (ht : t < 2) (hk : 8 * k + 8 ≤ txN t) : hq_Mt κ xX12_wordOf 4 0 0 [.ref (4 + t), .int (nI k)] z M (hz_ex (some (.int (wdF t k 8))) z M) := by
  refine hq_ent (lo := [(0, .ref (4 + t)), (1, .int (nI k))]) (by decide) (Nat.le_of_ble_eq_true rfl) rfl ?_
  refine hq_iconst (pc := 0) (v := nI 0) (hz_dec kX12_wordOf 0 rfl) (by decide) ?_
  refine hq_istoren (pc := 1) (i := 2) (lo2 := [(2, .int (nI 0)), (0, .ref (4 + t)), (1, .int (nI k))]) (hz_dec kX12_wordOf 1 rfl) rfl (by decide) rfl ?_
  refine hq_iconst (pc := 2) (v := nI 0) (hz_dec kX12_wordOf 2 rfl) (by decide) ?_
  refine hq_istoren (pc := 3) (i := 3) (lo2 := [(3, .int (nI 0)), (2, .int (nI 0)), (0, .ref (4 + t)), (1, .int (nI k))]) (hz_dec kX12_wordOf 3 rfl) rfl (by decide) rfl ?_
  refine hq_pick (pc := 4) [0, 1, 2, 3] rfl ?_
  exact c_wd_l ht hk 8 0 rfl (Nat.zero_le _)
def lnI (z B : Nat) (M0 M : hz_M) (a b : Nat) : Prop := mfr B [] [1, 2] M0 M ∧ mdE M B ∧ (∀ j, j < a → fA M B 1 j = hz_sf 0 j) ∧ (∀ j, j < b → fA M B 2 j = hz_sf 1 j)
set_option maxHeartbeats 4000000 in
set_option maxRecDepth 100000 in
theorem c_ln2 {κ : hz_C} {z B : Nat} {M0 : hz_M} (h8 : 8 ≤ B) (hz : B + 88 ≤ z) : ∀ n i M, n = 64 - i → i ≤ 64 → lnI z B M0 M 8 i → hq_W κ xX12_layNumbers 5 0 0 (fun r z2 M2 => none = r ∧ z = z2 ∧ lnI z B M0 M2 8 64) 0 0 29 [(1, .int (nI i)), (0, .ref B)] [] z M := by
  intro n
  induction n using Nat.strongRecOn with
  | ind n ih =>
  intro i M hn hi hI
  obtain ⟨hf0, hE0, ha, hb⟩ := id hI
  obtain ⟨fs, hO, hF⟩ := id hf0.2.1
  refine hq_iloadn (pc := 29) 0 (hz_dec kX12_layNumbers 16 rfl) rfl ?_
  refine hq_bipush (pc := 30) (v := nI 64) (hz_dec kX12_layNumbers 17 rfl) (by decide) ?_
  refine hq_n_ge (pc := 32) (tgt := 54) (hz_dec kX12_layNumbers 18 rfl) (by decide) (by omega) (by omega) (fun h1 => ?_) (fun h1 => ?_)
  · skip
    have e : i = 64 := by omega
    subst e
    exact hq_vret (pc := 54) (hz_dec kX12_layNumbers 28 rfl) rfl ⟨rfl, rfl, hI⟩
  · skip
    refine hq_aloadn (pc := 35) 1 (hz_dec kX12_layNumbers 19 rfl) rfl ?_
    refine hq_get (pc := 36) (v := .ref (B + 2)) (hz_dec kX12_layNumbers 20 rfl) fo_X12_13 hO h8 (by omega) (hF.2 3 (by decide) (by decide)) ?_
    refine hq_iloadn (pc := 39) 0 (hz_dec kX12_layNumbers 21 rfl) rfl ?_
    refine hq_ldcT1 (pc := 40) rfl (hz_dec kX12_layNumbers 22 rfl) ?_
    refine hq_iloadn (pc := 43) 0 (hz_dec kX12_layNumbers 23 rfl) rfl ?_
    refine hq_callSQ (pc := 44) (As := [.ref (5), .int (nI i)]) (st := [.int (nI i), .ref (B + 2)]) (hz_dec kX12_layNumbers 24 rfl) co_X12_313 sc_X12_wordOf (c_wd (t := 1) (k := i) (by decide) (by show 8 * i + 8 ≤ 512; omega)) rfl (by decide) ⟨Nat.le_refl _, Nat.le_refl _⟩ (Nat.le_of_ble_eq_true rfl) rfl (fun r9 z9 M9 hp9 => ?_)
    obtain ⟨rfl, rfl, rfl⟩ := hp9
    refine hq_eqi (pc := 47) (wd_1 i (by omega)) ?_
    refine hq_iast (pc := 47) (j := i) (hz_dec kX12_layNumbers 25 rfl) hE0.a2 (by omega) (by omega) rfl (by omega) (by decide) ?_
    refine hq_incN (pc := 48) (i := 1) (lo2 := [(1, .int (nI (i + 1))), (0, .ref B)]) 0 (hz_dec kX12_layNumbers 26 rfl) rfl (by decide) rfl ?_
    refine hq_goto (pc := 51) (tgt := 29) (hz_dec kX12_layNumbers 27 rfl) (by decide) ?_
    refine hq_pick (pc := 29) [0, 1] rfl ?_
    have hI2 : lnI z B M0 (va_up M (B + 2) (.inl (0, 64, .inl (upd (fA M B 2) i ((hz_sf 1 i)))))) 8 (i + 1) := ⟨hf0.tr ((mfr.rf ⟨fs, hO, hF⟩).upA (o := 2) rfl (by decide)), hE0.upA (k := 2) (t := 0) (n := 64) (by decide), fun j hj => by rw [fA_c (va_up_ne _ _ (by omega))]; exact ha j hj, fun j hj => by rw [fA_of (va_up_self _ _ _)]; unfold upd; by_cases e : j = i; (rw [if_pos e, e]); (rw [if_neg e]; exact hb j (by omega))⟩
    exact ih (64 - (i + 1)) (by omega) (i + 1) _ rfl (by omega) hI2
set_option maxHeartbeats 4000000 in
set_option maxRecDepth 100000 in
theorem c_ln1 {κ : hz_C} {z B : Nat} {M0 : hz_M} (h8 : 8 ≤ B) (hz : B + 88 ≤ z) : ∀ n i M, n = 8 - i → i ≤ 8 → lnI z B M0 M i 0 → hq_W κ xX12_layNumbers 5 0 0 (fun r z2 M2 => none = r ∧ z = z2 ∧ lnI z B M0 M2 8 64) 0 0 2 [(1, .int (nI i)), (0, .ref B)] [] z M := by
  intro n
  induction n using Nat.strongRecOn with
  | ind n ih =>
  intro i M hn hi hI
  obtain ⟨hf0, hE0, ha, hb⟩ := id hI
  obtain ⟨fs, hO, hF⟩ := id hf0.2.1
  refine hq_iloadn (pc := 2) 0 (hz_dec kX12_layNumbers 2 rfl) rfl ?_
  refine hq_bipush (pc := 3) (v := nI 8) (hz_dec kX12_layNumbers 3 rfl) (by decide) ?_
  refine hq_n_ge (pc := 5) (tgt := 27) (hz_dec kX12_layNumbers 4 rfl) (by decide) (by omega) (by omega) (fun h1 => ?_) (fun h1 => ?_)
  · skip
    have e : i = 8 := by omega
    subst e
    refine hq_iconst (pc := 27) (v := nI 0) (hz_dec kX12_layNumbers 14 rfl) (by decide) ?_
    refine hq_istoren (pc := 28) (i := 1) (lo2 := [(1, .int (nI 0)), (0, .ref B)]) (hz_dec kX12_layNumbers 15 rfl) rfl (by decide) rfl ?_
    refine hq_pick (pc := 29) [0, 1] rfl ?_
    exact c_ln2 h8 hz 64 0 M rfl (Nat.zero_le _) hI
  · skip
    refine hq_aloadn (pc := 8) 1 (hz_dec kX12_layNumbers 5 rfl) rfl ?_
    refine hq_get (pc := 9) (v := .ref (B + 1)) (hz_dec kX12_layNumbers 6 rfl) fo_X12_7 hO h8 (by omega) (hF.2 2 (by decide) (by decide)) ?_
    refine hq_iloadn (pc := 12) 0 (hz_dec kX12_layNumbers 7 rfl) rfl ?_
    refine hq_ldcT0 (pc := 13) rfl (hz_dec kX12_layNumbers 8 rfl) ?_
    refine hq_iloadn (pc := 16) 0 (hz_dec kX12_layNumbers 9 rfl) rfl ?_
    refine hq_callSQ (pc := 17) (As := [.ref (4), .int (nI i)]) (st := [.int (nI i), .ref (B + 1)]) (hz_dec kX12_layNumbers 10 rfl) co_X12_313 sc_X12_wordOf (c_wd (t := 0) (k := i) (by decide) (by show 8 * i + 8 ≤ 64; omega)) rfl (by decide) ⟨Nat.le_refl _, Nat.le_refl _⟩ (Nat.le_of_ble_eq_true rfl) rfl (fun r9 z9 M9 hp9 => ?_)
    obtain ⟨rfl, rfl, rfl⟩ := hp9
    refine hq_eqi (pc := 20) (wd_0 i (by omega)) ?_
    refine hq_iast (pc := 20) (j := i) (hz_dec kX12_layNumbers 11 rfl) hE0.a1 (by omega) (by omega) rfl (by omega) (by decide) ?_
    refine hq_incN (pc := 21) (i := 1) (lo2 := [(1, .int (nI (i + 1))), (0, .ref B)]) 0 (hz_dec kX12_layNumbers 12 rfl) rfl (by decide) rfl ?_
    refine hq_goto (pc := 24) (tgt := 2) (hz_dec kX12_layNumbers 13 rfl) (by decide) ?_
    refine hq_pick (pc := 2) [0, 1] rfl ?_
    have hI2 : lnI z B M0 (va_up M (B + 1) (.inl (0, 8, .inl (upd (fA M B 1) i ((hz_sf 0 i)))))) (i + 1) 0 := ⟨hf0.tr ((mfr.rf ⟨fs, hO, hF⟩).upA (o := 1) rfl (by decide)), hE0.upA (k := 1) (t := 0) (n := 8) (by decide), fun j hj => by rw [fA_of (va_up_self _ _ _)]; unfold upd; by_cases e : j = i; (rw [if_pos e, e]); (rw [if_neg e]; exact ha j (by omega)), fun j hj => by rw [fA_c (va_up_ne _ _ (by omega))]; exact hb j hj⟩
    exact ih (8 - (i + 1)) (by omega) (i + 1) _ rfl (by omega) hI2
set_option maxHeartbeats 4000000 in
set_option maxRecDepth 100000 in
theorem c_layN {κ : hz_C} {z B : Nat} {M0 : hz_M} (h8 : 8 ≤ B) (hz : B + 88 ≤ z) (hO : md_O M0 B) (hE : mdE M0 B) : hq_Mt κ xX12_layNumbers 5 0 0 [.ref B] z M0 (fun r z2 M2 => none = r ∧ z = z2 ∧ lnI z B M0 M2 8 64) := by
  refine hq_ent (lo := [(0, .ref B)]) (by decide) (Nat.le_of_ble_eq_true rfl) rfl ?_
  refine hq_iconst (pc := 0) (v := nI 0) (hz_dec kX12_layNumbers 0 rfl) (by decide) ?_
  refine hq_istoren (pc := 1) (i := 1) (lo2 := [(1, .int (nI 0)), (0, .ref B)]) (hz_dec kX12_layNumbers 1 rfl) rfl (by decide) rfl ?_
  refine hq_pick (pc := 2) [0, 1] rfl ?_
  exact c_ln1 h8 hz 8 0 M0 rfl (Nat.zero_le _) ⟨mfr.rf hO, hE, fun j hj => absurd hj (Nat.not_lt_zero j), fun j hj => absurd hj (Nat.not_lt_zero j)⟩
