/-! bits that are right, targets that are met -/
def tgR (t : Int32) : Bool := decide (4 ≤ tgE t ∧ tgE t ≤ 32 ∧ 32768 ≤ tgM t ∧ tgM t ≤ (if tgE t = 32 then 1048575 else 8388607))
theorem tgR_t {t : Int32} (h : 4 ≤ tgE t ∧ tgE t ≤ 32 ∧ 32768 ≤ tgM t ∧ tgM t ≤ (if tgE t = 32 then 1048575 else 8388607)) : some (Value.int (hz_b (tgR t))) = some (.int (nI 1)) := by
  rw [show tgR t = true from decide_eq_true h]; rfl
theorem tgR_f {t : Int32} (h : ¬ (4 ≤ tgE t ∧ tgE t ≤ 32 ∧ 32768 ≤ tgM t ∧ tgM t ≤ (if tgE t = 32 then 1048575 else 8388607))) : some (Value.int (hz_b (tgR t))) = some (.int (nI 0)) := by
  rw [show tgR t = false from decide_eq_false h]; rfl
theorem tgM31 (t : Int32) : tgM t < 2 ^ 31 := Nat.lt_trans (tgM_lt t) (by decide)
theorem tgE31 (t : Int32) : tgE t < 2 ^ 31 := Nat.lt_trans (tgE_lt t) (by decide)
set_option maxHeartbeats 4000000 in
set_option maxRecDepth 100000 in
theorem c_isRight {κ : hz_C} {z : Nat} {M : hz_M} {t : Int32} : hz_Mt κ xX9_isRight 0 0 0 [.int t] z M (hz_ex (some (.int (hz_b (tgR t)))) z M) := by
  refine hz_ent (lo := [(0, .int t)]) (by decide) (Nat.le_of_ble_eq_true rfl) rfl ?_
  have hE := tgE31 t
  have hm31 := tgM31 t
  refine hz_iloadn (pc := 0) 0 (hz_dec kX9_isRight 0 rfl) rfl ?_
  refine hz_bipush (pc := 1) (v := nI 24) (hz_dec kX9_isRight 1 rfl) (by decide) ?_
  refine hz_iushr (pc := 3) (hz_dec kX9_isRight 2 rfl) ?_
  refine hz_eqi (pc := 4) (tg_e t) ?_
  refine hz_istoren (pc := 4) (i := 1) (lo2 := [(1, .int (nI (tgE t))), (0, .int t)]) (hz_dec kX9_isRight 3 rfl) rfl (by decide) rfl ?_
  refine hz_iloadn (pc := 5) 1 (hz_dec kX9_isRight 4 rfl) rfl ?_
  refine hz_ldc (pc := 6) (v := nI 16777215) (hz_dec kX9_isRight 5 rfl) ks_X9_24 ?_
  refine hz_iand (pc := 8) (hz_dec kX9_isRight 6 rfl) ?_
  refine hz_eqi (pc := 9) (tg_m t) ?_
  refine hz_istoren (pc := 9) (i := 2) (lo2 := [(2, .int (nI (tgM t))), (1, .int (nI (tgE t))), (0, .int t)]) (hz_dec kX9_isRight 7 rfl) rfl (by decide) rfl ?_
  refine hz_iloadn (pc := 10) 1 (hz_dec kX9_isRight 8 rfl) rfl ?_
  refine hz_iconst (pc := 11) (v := nI 4) (hz_dec kX9_isRight 9 rfl) (by decide) ?_
  refine hz_n_lt (pc := 12) (tgt := 48) (hz_dec kX9_isRight 10 rfl) (by decide) (by omega) (by omega) (fun h1 => ?_) (fun h1 => ?_)
  · skip
    refine hz_iconst (pc := 48) (v := nI 0) (hz_dec kX9_isRight 27 rfl) (by decide) ?_
    exact hz_zret (pc := 49) (hz_dec kX9_isRight 28 rfl) rfl rfl ⟨tgR_f (fun q => by omega), rfl, rfl⟩
  · skip
    refine hz_iloadn (pc := 15) 1 (hz_dec kX9_isRight 11 rfl) rfl ?_
    refine hz_bipush (pc := 16) (v := nI 32) (hz_dec kX9_isRight 12 rfl) (by decide) ?_
    refine hz_n_gt (pc := 18) (tgt := 48) (hz_dec kX9_isRight 13 rfl) (by decide) (by omega) (by omega) (fun h2 => ?_) (fun h2 => ?_)
    · skip
      refine hz_iconst (pc := 48) (v := nI 0) (hz_dec kX9_isRight 27 rfl) (by decide) ?_
      exact hz_zret (pc := 49) (hz_dec kX9_isRight 28 rfl) rfl rfl ⟨tgR_f (fun q => by omega), rfl, rfl⟩
    · skip
      refine hz_iloadn (pc := 21) 0 (hz_dec kX9_isRight 14 rfl) rfl ?_
      refine hz_ldc (pc := 22) (v := nI 32768) (hz_dec kX9_isRight 15 rfl) ks_X9_25 ?_
      refine hz_n_lt (pc := 24) (tgt := 48) (hz_dec kX9_isRight 16 rfl) (by decide) (by omega) (by omega) (fun h3 => ?_) (fun h3 => ?_)
      · skip
        refine hz_iconst (pc := 48) (v := nI 0) (hz_dec kX9_isRight 27 rfl) (by decide) ?_
        exact hz_zret (pc := 49) (hz_dec kX9_isRight 28 rfl) rfl rfl ⟨tgR_f (fun q => by omega), rfl, rfl⟩
      · skip
        refine hz_iloadn (pc := 27) 0 (hz_dec kX9_isRight 17 rfl) rfl ?_
        refine hz_iloadn (pc := 28) 1 (hz_dec kX9_isRight 18 rfl) rfl ?_
        refine hz_bipush (pc := 29) (v := nI 32) (hz_dec kX9_isRight 19 rfl) (by decide) ?_
        refine hz_n_ne (pc := 31) (tgt := 39) (hz_dec kX9_isRight 20 rfl) (by decide) (by omega) (by omega) (fun h4 => ?_) (fun h4 => ?_)
        · skip
          refine hz_ldc (pc := 39) (v := nI 8388607) (hz_dec kX9_isRight 23 rfl) ks_X9_27 ?_
          refine hz_n_gt (pc := 41) (tgt := 48) (hz_dec kX9_isRight 24 rfl) (by decide) (by omega) (by omega) (fun h5 => ?_) (fun h5 => ?_)
          · skip
            refine hz_iconst (pc := 48) (v := nI 0) (hz_dec kX9_isRight 27 rfl) (by decide) ?_
            exact hz_zret (pc := 49) (hz_dec kX9_isRight 28 rfl) rfl rfl ⟨tgR_f (fun q => by have q4 := q.2.2.2; split at q4 <;> omega), rfl, rfl⟩
          · skip
            refine hz_iconst (pc := 44) (v := nI 1) (hz_dec kX9_isRight 25 rfl) (by decide) ?_
            refine hz_goto (pc := 45) (tgt := 49) (hz_dec kX9_isRight 26 rfl) (by decide) ?_
            exact hz_zret (pc := 49) (hz_dec kX9_isRight 28 rfl) rfl rfl ⟨tgR_t ⟨by omega, by omega, by omega, by split <;> omega⟩, rfl, rfl⟩
        · skip
          refine hz_ldc (pc := 34) (v := nI 1048575) (hz_dec kX9_isRight 21 rfl) ks_X9_26 ?_
          refine hz_goto (pc := 36) (tgt := 41) (hz_dec kX9_isRight 22 rfl) (by decide) ?_
          refine hz_n_gt (pc := 41) (tgt := 48) (hz_dec kX9_isRight 24 rfl) (by decide) (by omega) (by omega) (fun h5 => ?_) (fun h5 => ?_)
          · skip
            refine hz_iconst (pc := 48) (v := nI 0) (hz_dec kX9_isRight 27 rfl) (by decide) ?_
            exact hz_zret (pc := 49) (hz_dec kX9_isRight 28 rfl) rfl rfl ⟨tgR_f (fun q => by have q4 := q.2.2.2; split at q4 <;> omega), rfl, rfl⟩
          · skip
            refine hz_iconst (pc := 44) (v := nI 1) (hz_dec kX9_isRight 25 rfl) (by decide) ?_
            refine hz_goto (pc := 45) (tgt := 49) (hz_dec kX9_isRight 26 rfl) (by decide) ?_
            exact hz_zret (pc := 49) (hz_dec kX9_isRight 28 rfl) rfl rfl ⟨tgR_t ⟨by omega, by omega, by omega, by split <;> omega⟩, rfl, rfl⟩
def md_t (B : Nat) (M : hz_M) : Prop := (∃ f : Nat → Int32, M (B + 10) = .inl (0, 9, .inl f)) ∧ (∃ f : Nat → Int32, M (B + 11) = .inl (0, 9, .inl f)) ∧ (∃ f : Nat → Int32, M (B + 12) = .inl (0, 9, .inl f)) ∧ (∃ f : Nat → Int32, M (B + 13) = .inl (0, 9, .inl f))
def md_tF (M : hz_M) (z B : Nat) (os : List Nat) (v : Option Value) (Q : hz_M → Prop) : hz_P := fun r z2 M2 => v = r ∧ z = z2 ∧ frl B os M M2 ∧ md_t B M2 ∧ Q M2
theorem tg_easy : tgT 537919487 = 1048575 * 256 ^ 29 := rfl
theorem tg_easyE : tgE 537919487 = 32 := rfl
theorem tg_le {t : Int32} (h1 : 4 ≤ tgE t) (h2 : tgE t ≤ 32) (h4 : tgM t ≤ 8388607) : tgT t ≤ tgT 537919487 ↔ tgM t ≤ (if tgE t = 32 then 1048575 else 8388607) := by
  rw [tg_easy]
  unfold tgT
  rcases (show tgE t = 32 ∨ tgE t ≤ 31 by omega) with e | e
  · rw [if_pos e, e]
    constructor
    · intro h
      exact Nat.le_of_mul_le_mul_right h (by decide)
    · intro h
      exact Nat.mul_le_mul_right _ h
  · rw [if_neg (by omega)]
    refine ⟨fun _ => h4, fun _ => ?_⟩
    refine Nat.le_trans (Nat.mul_le_mul h4 (Nat.pow_le_pow_right (by decide) (show tgE t - 3 ≤ 28 by omega))) ?_
    decide +kernel
set_option maxHeartbeats 4000000 in
set_option maxRecDepth 100000 in
theorem c_areRight {κ : hz_C} {z : Nat} {M : hz_M} {B : Nat} {fs : List Value} (hO : M B = .inr (12, fs)) (hF : md_F B fs) (h8 : 8 ≤ B) (hz : B + 88 ≤ z) (ht : md_t B M) {t : Int32} : hz_Mt κ xX12_areRight 2 0 0 [.ref B, .int t] z M (md_tF M z B [10, 11] (some (.int (hz_b (tgR t)))) (fun _ => True)) := by
  refine hz_ent (lo := [(0, .ref B), (1, .int t)]) (by decide) (Nat.le_of_ble_eq_true rfl) rfl ?_
  have hE := tgE31 t
  have hm31 := tgM31 t
  obtain ⟨⟨a10, h10⟩, ⟨a11, h11⟩, ⟨a12, h12⟩, ⟨a13, h13⟩⟩ := id ht
  refine hz_iloadn (pc := 0) 1 (hz_dec kX12_areRight 0 rfl) rfl ?_
  refine hz_bipush (pc := 1) (v := nI 24) (hz_dec kX12_areRight 1 rfl) (by decide) ?_
  refine hz_iushr (pc := 3) (hz_dec kX12_areRight 2 rfl) ?_
  refine hz_eqi (pc := 4) (tg_e t) ?_
  refine hz_istoren (pc := 4) (i := 2) (lo2 := [(2, .int (nI (tgE t))), (0, .ref B), (1, .int t)]) (hz_dec kX12_areRight 3 rfl) rfl (by decide) rfl ?_
  refine hz_iloadn (pc := 5) 2 (hz_dec kX12_areRight 4 rfl) rfl ?_
  refine hz_ldcw (pc := 6) (v := nI 16777215) (hz_dec kX12_areRight 5 rfl) ks_X12_364 ?_
  refine hz_iand (pc := 9) (hz_dec kX12_areRight 6 rfl) ?_
  refine hz_eqi (pc := 10) (tg_m t) ?_
  refine hz_istoren (pc := 10) (i := 3) (lo2 := [(3, .int (nI (tgM t))), (2, .int (nI (tgE t))), (0, .ref B), (1, .int t)]) (hz_dec kX12_areRight 7 rfl) rfl (by decide) rfl ?_
  refine hz_iloadn (pc := 11) 1 (hz_dec kX12_areRight 8 rfl) rfl ?_
  refine hz_iconst (pc := 12) (v := nI 4) (hz_dec kX12_areRight 9 rfl) (by decide) ?_
  refine hz_n_lt (pc := 13) (tgt := 36) (hz_dec kX12_areRight 10 rfl) (by decide) (by omega) (by omega) (fun h1 => ?_) (fun h1 => ?_)
  · skip
    refine hz_iconst (pc := 36) (v := nI 0) (hz_dec kX12_areRight 20 rfl) (by decide) ?_
    exact hz_zret (pc := 37) (hz_dec kX12_areRight 21 rfl) rfl rfl ⟨tgR_f (fun q => by have q4 := q.2.2.2; split at q4 <;> omega), rfl, frl.rf, ht, trivial⟩
  · skip
    refine hz_iloadn (pc := 16) 1 (hz_dec kX12_areRight 11 rfl) rfl ?_
    refine hz_bipush (pc := 17) (v := nI 32) (hz_dec kX12_areRight 12 rfl) (by decide) ?_
    refine hz_n_gt (pc := 19) (tgt := 36) (hz_dec kX12_areRight 13 rfl) (by decide) (by omega) (by omega) (fun h2 => ?_) (fun h2 => ?_)
    · skip
      refine hz_iconst (pc := 36) (v := nI 0) (hz_dec kX12_areRight 20 rfl) (by decide) ?_
      exact hz_zret (pc := 37) (hz_dec kX12_areRight 21 rfl) rfl rfl ⟨tgR_f (fun q => by have q4 := q.2.2.2; split at q4 <;> omega), rfl, frl.rf, ht, trivial⟩
    · skip
      refine hz_iloadn (pc := 22) 0 (hz_dec kX12_areRight 14 rfl) rfl ?_
      refine hz_ldcw (pc := 23) (v := nI 32768) (hz_dec kX12_areRight 15 rfl) ks_X12_365 ?_
      refine hz_n_lt (pc := 26) (tgt := 36) (hz_dec kX12_areRight 16 rfl) (by decide) (by omega) (by omega) (fun h3 => ?_) (fun h3 => ?_)
      · skip
        refine hz_iconst (pc := 36) (v := nI 0) (hz_dec kX12_areRight 20 rfl) (by decide) ?_
        exact hz_zret (pc := 37) (hz_dec kX12_areRight 21 rfl) rfl rfl ⟨tgR_f (fun q => by have q4 := q.2.2.2; split at q4 <;> omega), rfl, frl.rf, ht, trivial⟩
      · skip
        refine hz_iloadn (pc := 29) 0 (hz_dec kX12_areRight 17 rfl) rfl ?_
        refine hz_ldcw (pc := 30) (v := nI 8388607) (hz_dec kX12_areRight 18 rfl) ks_X12_366 ?_
        refine hz_n_le (pc := 33) (tgt := 38) (hz_dec kX12_areRight 19 rfl) (by decide) (by omega) (by omega) (fun h4 => ?_) (fun h4 => ?_)
        · skip
          refine hz_iloadn (pc := 38) 3 (hz_dec kX12_areRight 22 rfl) rfl ?_
          refine hz_aloadn (pc := 39) 2 (hz_dec kX12_areRight 23 rfl) rfl ?_
          refine hz_get (pc := 40) (v := .ref (B + 10)) (hz_dec kX12_areRight 24 rfl) fo_X12_39 hO h8 (by omega) (hF.2 11 (by decide) (by decide)) ?_
          refine hz_callS (pc := 43) (As := [.int t, .ref (B + 10)]) (st := []) (hz_dec kX12_areRight 25 rfl) co_X12_367 sc_X12_layTarget (c_layT h10 (by omega) (by omega) (t := t) (by omega) (by omega)) rfl (by decide) ⟨Nat.le_refl _, Nat.le_refl _⟩ (Nat.le_of_ble_eq_true rfl) rfl (fun r9 z9 M9 hp9 => ?_)
          obtain ⟨rfl, rfl, f1, hf1, rfl⟩ := hp9
          refine hz_ldcw (pc := 46) (v := nI 537919487) (hz_dec kX12_areRight 26 rfl) ks_X12_371 ?_
          refine hz_aloadn (pc := 49) 2 (hz_dec kX12_areRight 27 rfl) rfl ?_
          refine hz_get (pc := 50) (v := .ref (B + 11)) (hz_dec kX12_areRight 28 rfl) fo_X12_42 (hz_mne hO (by omega)) h8 (by omega) (hF.2 12 (by decide) (by decide)) ?_
          refine hz_callS (pc := 53) (As := [.int (nI 537919487), .ref (B + 11)]) (st := []) (hz_dec kX12_areRight 29 rfl) co_X12_367 sc_X12_layTarget (c_layT (hz_mne h11 (by omega)) (by omega) (by omega) (t := nI 537919487) (by decide) (by decide)) rfl (by decide) ⟨Nat.le_refl _, Nat.le_refl _⟩ (Nat.le_of_ble_eq_true rfl) rfl (fun r9 z9 M9 hp9 => ?_)
          obtain ⟨rfl, rfl, f2, hf2, rfl⟩ := hp9
          refine hz_aloadn (pc := 56) 2 (hz_dec kX12_areRight 30 rfl) rfl ?_
          refine hz_get (pc := 57) (v := .ref (B + 10)) (hz_dec kX12_areRight 31 rfl) fo_X12_39 (hz_mne (hz_mne hO (by omega)) (by omega)) h8 (by omega) (hF.2 11 (by decide) (by decide)) ?_
          refine hz_aloadn (pc := 60) 2 (hz_dec kX12_areRight 32 rfl) rfl ?_
          refine hz_get (pc := 61) (v := .ref (B + 11)) (hz_dec kX12_areRight 33 rfl) fo_X12_42 (hz_mne (hz_mne hO (by omega)) (by omega)) h8 (by omega) (hF.2 12 (by decide) (by decide)) ?_
          refine hz_xS (pc := 64) (As := [.ref (B + 10), .ref (B + 11)]) (st := []) (hz_dec kX12_areRight 34 rfl) co_X12_372 sc_X12_compareBig (c_cmpB (hz_mne (va_up_self _ _ _) (by omega)) (by omega) (by omega) (by decide) (va_up_self _ _ _) (by omega) (by omega) (by decide) (by decide) (by decide)) rfl (by decide) ⟨Nat.le_refl _, Nat.le_refl _⟩ (Nat.le_of_ble_eq_true rfl) rfl ?_
          have hq : cmpN (bg f1 0 9) (bg f2 0 9) ≤ 0 ↔ tgM t ≤ (if tgE t = 32 then 1048575 else 8388607) := by rw [hf1, hf2]; exact cmpN_le.trans (tg_le (t := t) (by omega) (by omega) (by omega))
          refine hz_if_gt (pc := 67) (tgt := 74) (hz_dec kX12_areRight 35 rfl) (by decide) (fun h9 => ?_) (fun h9 => ?_)
          · skip
            have hq2 : ¬ cmpN (bg f1 0 9) (bg f2 0 9) ≤ 0 := Int32.not_le.mpr h9
            refine hz_iconst (pc := 74) (v := nI 0) (hz_dec kX12_areRight 38 rfl) (by decide) ?_
            exact hz_zret (pc := 75) (hz_dec kX12_areRight 39 rfl) rfl rfl ⟨tgR_f (fun q => hq2 (hq.mpr q.2.2.2)), rfl, ((frl.up (os := [10, 11]) rfl).tr (frl.up (os := [10, 11]) rfl) rfl rfl), ⟨⟨f1, (hz_mne (va_up_self _ _ _) (by omega))⟩, ⟨f2, (va_up_self _ _ _)⟩, ⟨a12, hz_mne (hz_mne h12 (by omega)) (by omega)⟩, ⟨a13, hz_mne (hz_mne h13 (by omega)) (by omega)⟩⟩, trivial⟩
          · skip
            have hq2 : cmpN (bg f1 0 9) (bg f2 0 9) ≤ 0 := Int32.not_lt.mp h9
            refine hz_iconst (pc := 70) (v := nI 1) (hz_dec kX12_areRight 36 rfl) (by decide) ?_
            refine hz_goto (pc := 71) (tgt := 75) (hz_dec kX12_areRight 37 rfl) (by decide) ?_
            exact hz_zret (pc := 75) (hz_dec kX12_areRight 39 rfl) rfl rfl ⟨tgR_t ⟨by omega, by omega, by omega, hq.mp hq2⟩, rfl, ((frl.up (os := [10, 11]) rfl).tr (frl.up (os := [10, 11]) rfl) rfl rfl), ⟨⟨f1, (hz_mne (va_up_self _ _ _) (by omega))⟩, ⟨f2, (va_up_self _ _ _)⟩, ⟨a12, hz_mne (hz_mne h12 (by omega)) (by omega)⟩, ⟨a13, hz_mne (hz_mne h13 (by omega)) (by omega)⟩⟩, trivial⟩
        · skip
          refine hz_iconst (pc := 36) (v := nI 0) (hz_dec kX12_areRight 20 rfl) (by decide) ?_
          exact hz_zret (pc := 37) (hz_dec kX12_areRight 21 rfl) rfl rfl ⟨tgR_f (fun q => by have q4 := q.2.2.2; split at q4 <;> omega), rfl, frl.rf, ht, trivial⟩
theorem dg_int {d h : Nat → Int32} {k : Nat} (hd : ∀ i, i < 32 → d i = sh_dg h i) (hk : k < 8) : bn_int d (4 * k) = h k := by
  have e : ∀ i, i < 4 → bb (d (4 * k + i)) = un (h k) / 2 ^ (24 - 8 * i) % 256 := fun i hi => by
    rw [hd _ (by omega)]
    unfold sh_dg
    rw [bb_i8, bb_i8, show (4 * k + i) / 4 = k by omega, show (4 * k + i) % 4 = i by omega, bb_shr _ (by omega)]
  apply un_inj
  have hu := un_lt (h k)
  have e0 := e 0 (by omega)
  have e1 := e 1 (by omega)
  have e2 := e 2 (by omega)
  have e3 := e 3 (by omega)
  unfold bn_int
  have hb := bn_nat_lt d (4 * k) 4
  rw [un_nI (by omega)]
  simp only [bn_nat, Nat.add_zero] at *
  omega
theorem bg0_0 {f : Nat → Int32} (h : bg f 0 9 = 0) : f 0 = 0 := by
  rw [bg_cons] at h
  apply un_inj
  show _ = 0
  have : un (f 0) * 4294967296 ^ 8 = 0 := (Nat.add_eq_zero_iff.mp h).1
  rcases Nat.mul_eq_zero.mp this with q | q
  · exact q
  · exact absurd q (by decide)
set_option maxHeartbeats 4000000 in
set_option maxRecDepth 100000 in
theorem c_meets_l {κ : hz_C} {z : Nat} {M : hz_M} {B : Nat} {fs : List Value} (hO : M B = .inr (12, fs)) (hF : md_F B fs) (h8 : 8 ≤ B) (hz : B + 88 ≤ z) {a11 : Nat → Int32} (h11 : M (B + 11) = .inl (0, 9, .inl a11)) {dd h : Nat → Int32} (hd : M (B + 5) = .inl (1, 32, .inl dd)) (hdd : ∀ i, i < 32 → dd i = sh_dg h i) {P : hz_P} (K : ∀ f : Nat → Int32, bg f 0 9 = bg h 0 8 → hz_W κ xX12_meets 2 0 0 P 0 0 47 [(0, .ref B)] [] z (va_up M (B + 11) (.inl (0, 9, .inl f)))) : ∀ k i f, k = 8 - i → i ≤ 8 → bg f 0 (i + 1) = bg h 0 i → hz_W κ xX12_meets 2 0 0 P 0 0 17 [(2, .int (nI i)), (0, .ref B)] [] z (va_up M (B + 11) (.inl (0, 9, .inl f))) := by
  intro k
  induction k using Nat.strongRecOn with
  | ind k ih =>
  intro i f hk hi hv
  refine hz_iloadn (pc := 17) 0 (hz_dec kX12_meets 9 rfl) rfl ?_
  refine hz_bipush (pc := 18) (v := nI 8) (hz_dec kX12_meets 10 rfl) (by decide) ?_
  refine hz_n_ge (pc := 20) (tgt := 47) (hz_dec kX12_meets 11 rfl) (by decide) (by omega) (by omega) (fun h1 => ?_) (fun h1 => ?_)
  · skip
    have e : i = 8 := by omega
    subst e
    refine hz_pick (pc := 47) [1] rfl ?_
    exact K f hv
  · skip
    refine hz_aloadn (pc := 23) 1 (hz_dec kX12_meets 12 rfl) rfl ?_
    refine hz_get (pc := 24) (v := .ref (B + 11)) (hz_dec kX12_meets 13 rfl) fo_X12_42 (hz_mne hO (by omega)) h8 (by omega) (hF.2 12 (by decide) (by decide)) ?_
    refine hz_iloadn (pc := 27) 0 (hz_dec kX12_meets 14 rfl) rfl ?_
    refine hz_iconst (pc := 28) (v := nI 1) (hz_dec kX12_meets 15 rfl) (by decide) ?_
    refine hz_addN (pc := 29) (hz_dec kX12_meets 16 rfl) ?_
    refine hz_aloadn (pc := 30) 1 (hz_dec kX12_meets 17 rfl) rfl ?_
    refine hz_get (pc := 31) (v := .ref (B + 5)) (hz_dec kX12_meets 18 rfl) fo_X12_22 (hz_mne hO (by omega)) h8 (by omega) (hF.2 6 (by decide) (by decide)) ?_
    refine hz_iconst (pc := 34) (v := nI 4) (hz_dec kX12_meets 19 rfl) (by decide) ?_
    refine hz_iloadn (pc := 35) 0 (hz_dec kX12_meets 20 rfl) rfl ?_
    refine hz_mulN (pc := 36) (hz_dec kX12_meets 21 rfl) ?_
    refine hz_xS (pc := 37) (As := [.ref (B + 5), .int (nI (4 * i))]) (st := [.int (nI (i + 1)), .ref (B + 11)]) (hz_dec kX12_meets 22 rfl) co_X12_376 sc_X12_intAt (c_intAt (hz_mne hd (by omega)) (by omega) (by omega) (by decide) (by omega)) rfl (by decide) ⟨Nat.le_refl _, Nat.le_refl _⟩ (Nat.le_of_ble_eq_true rfl) rfl ?_
    refine hz_eqi (pc := 40) (dg_int hdd h1) ?_
    refine hz_iast (pc := 40) (j := i + 1) (hz_dec kX12_meets 23 rfl) (va_up_self _ _ _) (by omega) (by omega) rfl (by omega) (by decide) ?_
    refine hz_mem (pc := 41) (M2 := (va_up M (B + 11) (.inl (0, 9, .inl (upd f (i + 1) ((h i))))))) (bx_uu _ _ _ _) ?_
    refine hz_incN (pc := 41) (i := 2) (lo2 := [(2, .int (nI (i + 1))), (0, .ref B)]) 0 (hz_dec kX12_meets 24 rfl) rfl (by decide) rfl ?_
    refine hz_goto (pc := 44) (tgt := 17) (hz_dec kX12_meets 25 rfl) (by decide) ?_
    refine hz_pick (pc := 17) [0, 1] rfl ?_
    refine ih (8 - (i + 1)) (by omega) (i + 1) _ rfl (by omega) ?_
    rw [bg_eU (n := 0), hv]
    show _ = bg h 0 i * 4294967296 + un (h (0 + i))
    rw [Nat.zero_add]
set_option maxHeartbeats 4000000 in
set_option maxRecDepth 100000 in
theorem c_meets {κ : hz_C} {z : Nat} {M : hz_M} {B : Nat} {fs : List Value} (hO : M B = .inr (12, fs)) (hF : md_F B fs) (h8 : 8 ≤ B) (hz : B + 88 ≤ z) (ht : md_t B M) {dd h : Nat → Int32} (hd : M (B + 5) = .inl (1, 32, .inl dd)) (hdd : ∀ i, i < 32 → dd i = sh_dg h i) {t : Int32} (he : 3 ≤ tgE t) (he2 : tgE t ≤ 36) : hz_Mt κ xX12_meets 2 0 0 [.ref B, .int t] z M (md_tF M z B [10, 11] (some (.int (hz_b (decide (bg h 0 8 ≤ tgT t))))) (fun _ => True)) := by
  refine hz_ent (lo := [(0, .ref B), (1, .int t)]) (by decide) (Nat.le_of_ble_eq_true rfl) rfl ?_
  obtain ⟨⟨a10, h10⟩, ⟨a11, h11⟩, ⟨a12, h12⟩, ⟨a13, h13⟩⟩ := id ht
  refine hz_iloadn (pc := 0) 1 (hz_dec kX12_meets 0 rfl) rfl ?_
  refine hz_aloadn (pc := 1) 0 (hz_dec kX12_meets 1 rfl) rfl ?_
  refine hz_get (pc := 2) (v := .ref (B + 10)) (hz_dec kX12_meets 2 rfl) fo_X12_39 hO h8 (by omega) (hF.2 11 (by decide) (by decide)) ?_
  refine hz_callS (pc := 5) (As := [.int t, .ref (B + 10)]) (st := []) (hz_dec kX12_meets 3 rfl) co_X12_367 sc_X12_layTarget (c_layT h10 (by omega) (by omega) (t := t) he he2) rfl (by decide) ⟨Nat.le_refl _, Nat.le_refl _⟩ (Nat.le_of_ble_eq_true rfl) rfl (fun r9 z9 M9 hp9 => ?_)
  obtain ⟨rfl, rfl, f1, hf1, rfl⟩ := hp9
  refine hz_aloadn (pc := 8) 0 (hz_dec kX12_meets 4 rfl) rfl ?_
  refine hz_get (pc := 9) (v := .ref (B + 11)) (hz_dec kX12_meets 5 rfl) fo_X12_42 (hz_mne hO (by omega)) h8 (by omega) (hF.2 12 (by decide) (by decide)) ?_
  refine hz_callS (pc := 12) (As := [.ref (B + 11)]) (st := []) (hz_dec kX12_meets 6 rfl) co_X12_360 sc_X12_clearBig (c_clear (hz_mne h11 (by omega)) (by omega) (by omega)) rfl (by decide) ⟨Nat.le_refl _, Nat.le_refl _⟩ (Nat.le_of_ble_eq_true rfl) rfl (fun r9 z9 M9 hp9 => ?_)
  obtain ⟨rfl, rfl, f2, hf2, rfl⟩ := hp9
  refine hz_iconst (pc := 15) (v := nI 0) (hz_dec kX12_meets 7 rfl) (by decide) ?_
  refine hz_istoren (pc := 16) (i := 2) (lo2 := [(2, .int (nI 0)), (0, .ref B), (1, .int t)]) (hz_dec kX12_meets 8 rfl) rfl (by decide) rfl ?_
  refine hz_pick (pc := 17) [0, 1] rfl ?_
  refine c_meets_l (hz_mne hO (by omega)) hF h8 hz (hz_mne h11 (by omega)) (hz_mne hd (by omega)) hdd (fun f hf => ?_) 8 0 f2 rfl (by omega) (by show 0 * 4294967296 + un (f2 (0 + 0)) = 0; rw [bg0_0 hf2]; rfl)
  refine hz_aloadn (pc := 47) 0 (hz_dec kX12_meets 26 rfl) rfl ?_
  refine hz_get (pc := 48) (v := .ref (B + 11)) (hz_dec kX12_meets 27 rfl) fo_X12_42 (hz_mne (hz_mne hO (by omega)) (by omega)) h8 (by omega) (hF.2 12 (by decide) (by decide)) ?_
  refine hz_aloadn (pc := 51) 0 (hz_dec kX12_meets 28 rfl) rfl ?_
  refine hz_get (pc := 52) (v := .ref (B + 10)) (hz_dec kX12_meets 29 rfl) fo_X12_39 (hz_mne (hz_mne hO (by omega)) (by omega)) h8 (by omega) (hF.2 11 (by decide) (by decide)) ?_
  refine hz_xS (pc := 55) (As := [.ref (B + 11), .ref (B + 10)]) (st := []) (hz_dec kX12_meets 30 rfl) co_X12_372 sc_X12_compareBig (c_cmpB (va_up_self _ _ _) (by omega) (by omega) (by decide) (hz_mne (va_up_self _ _ _) (by omega)) (by omega) (by omega) (by decide) (by decide) (by decide)) rfl (by decide) ⟨Nat.le_refl _, Nat.le_refl _⟩ (Nat.le_of_ble_eq_true rfl) rfl ?_
  have hq : cmpN (bg f 0 9) (bg f1 0 9) ≤ 0 ↔ bg h 0 8 ≤ tgT t := by rw [hf1, hf]; exact cmpN_le
  refine hz_if_gt (pc := 58) (tgt := 65) (hz_dec kX12_meets 31 rfl) (by decide) (fun h9 => ?_) (fun h9 => ?_)
  · skip
    refine hz_iconst (pc := 65) (v := nI 0) (hz_dec kX12_meets 34 rfl) (by decide) ?_
    exact hz_zret (pc := 66) (hz_dec kX12_meets 35 rfl) rfl rfl ⟨by rw [show decide (bg h 0 8 ≤ tgT t) = false from decide_eq_false (fun q => Int32.not_le.mpr h9 (hq.mpr q))]; rfl, rfl, ((frl.up (os := [10, 11]) rfl).tr (frl.up (os := [10, 11]) rfl) rfl rfl), ⟨⟨f1, (hz_mne (va_up_self _ _ _) (by omega))⟩, ⟨f, (va_up_self _ _ _)⟩, ⟨a12, hz_mne (hz_mne h12 (by omega)) (by omega)⟩, ⟨a13, hz_mne (hz_mne h13 (by omega)) (by omega)⟩⟩, trivial⟩
  · skip
    refine hz_iconst (pc := 61) (v := nI 1) (hz_dec kX12_meets 32 rfl) (by decide) ?_
    refine hz_goto (pc := 62) (tgt := 66) (hz_dec kX12_meets 33 rfl) (by decide) ?_
    exact hz_zret (pc := 66) (hz_dec kX12_meets 35 rfl) rfl rfl ⟨by rw [show decide (bg h 0 8 ≤ tgT t) = true from decide_eq_true (hq.mp (Int32.not_lt.mp h9))]; rfl, rfl, ((frl.up (os := [10, 11]) rfl).tr (frl.up (os := [10, 11]) rfl) rfl rfl), ⟨⟨f1, (hz_mne (va_up_self _ _ _) (by omega))⟩, ⟨f, (va_up_self _ _ _)⟩, ⟨a12, hz_mne (hz_mne h12 (by omega)) (by omega)⟩, ⟨a13, hz_mne (hz_mne h13 (by omega)) (by omega)⟩⟩, trivial⟩
