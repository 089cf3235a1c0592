theorem up_comm {M : hz_M} {a b : Nat} {e f : va_E} (h : a ≠ b) : va_up (va_up M a e) b f = va_up (va_up M b f) a e := by
  funext x
  by_cases h1 : x = a
  · subst h1; rw [va_up_ne _ _ h, va_up_self, va_up_self]
  · by_cases h2 : x = b
    · subst h2; rw [va_up_self, va_up_ne _ _ h1, va_up_self]
    · rw [va_up_ne _ _ h2, va_up_ne _ _ h1, va_up_ne _ _ h1, va_up_ne _ _ h2]
theorem mw_e {T : Nat} (hT : T ≤ tgT 537919487) : T + 1 ≤ 2 ^ 253 := Nat.le_trans (Nat.add_le_add_right hT 1) (by decide +kernel)
theorem mw_d {F c T : Nat} (hT : T ≤ tgT 537919487) (h : F + c * 4294967296 ^ 8 = T + 1) : F = T + 1 := by
  have hEW : tgT 537919487 + 1 < 4294967296 ^ 8 := by decide +kernel
  generalize (4294967296 : Nat) ^ 8 = W8 at *
  generalize tgT 537919487 = E at *
  rcases (show c = 0 ∨ 1 ≤ c by omega) with rfl | q
  · omega
  · have := Nat.mul_le_mul_right W8 q
    omega
/-- the work kept: that of the bits kept -/
def ck_w (M : hz_M) : Prop := ∃ wb : Int32, M 20 = .inr (9, [.ref 21, .ref 22, .ref 23, .ref 24, .int wb]) ∧ (∃ f : Nat → Int32, M 21 = .inl (0, 8, .inl f)) ∧ (∃ f : Nat → Int32, M 22 = .inl (0, 8, .inl f)) ∧ (∃ f : Nat → Int32, M 23 = .inl (0, 8, .inl f)) ∧ (∃ f : Nat → Int32, M 24 = .inl (0, 8, .inl f) ∧ (tgR wb = true → bg f 0 8 = 2 ^ 256 / (tgT wb + 1)))
def cw_P (M : hz_M) (z : Nat) (t : Int32) : hz_P := fun r z2 M2 => none = r ∧ z = z2 ∧ frl 0 [20, 21, 22, 23, 24] M M2 ∧ ck_w M2 ∧ ∃ w : Nat → Int32, M2 24 = .inl (0, 8, .inl w) ∧ bg w 0 8 = 2 ^ 256 / (tgT t + 1)
set_option maxHeartbeats 4000000 in
set_option maxRecDepth 100000 in
theorem c_makeWork {κ : hz_C} {z : Nat} {M : hz_M} (hk : ck_w M) (hz : 25 ≤ z) {t : Int32} (hR : tgR t = true) : hz_Mt κ xX9_makeWork 2 0 0 [.ref 20, .int t] z M (cw_P M z t) := by
  refine hz_ent (lo := [(0, .ref 20), (1, .int t)]) (by decide) (Nat.le_of_ble_eq_true rfl) rfl ?_
  obtain ⟨wb, hO, ⟨a21, h21⟩, ⟨a22, h22⟩, ⟨a23, h23⟩, a24, h24, hW⟩ := id hk
  have hR2 := of_decide_eq_true hR
  have hT : tgT t ≤ tgT 537919487 := (tg_le hR2.1 hR2.2.1 (by have q := hR2.2.2.2; split at q <;> omega)).mpr hR2.2.2.2
  have hT1 : 1 ≤ tgT t := by
    unfold tgT
    exact Nat.mul_pos (by omega) (Nat.pow_pos (by decide))

  refine hz_iloadn (pc := 0) 1 (hz_dec kX9_makeWork 0 rfl) rfl ?_
  refine hz_aloadn (pc := 1) 0 (hz_dec kX9_makeWork 1 rfl) rfl ?_
  refine hz_get (pc := 2) (hz_dec kX9_makeWork 2 rfl) fo_X9_57 hO (by decide) (by omega) rfl ?_
  refine hz_icmp_ne (pc := 5) (tgt := 9) (hz_dec kX9_makeWork 3 rfl) (by decide) (fun h1 => ?_) (fun h1 => ?_)
  · skip
    refine hz_aloadn (pc := 9) 0 (hz_dec kX9_makeWork 5 rfl) rfl ?_
    refine hz_iloadn (pc := 10) 1 (hz_dec kX9_makeWork 6 rfl) rfl ?_
    refine hz_puti (pc := 11) (hz_dec kX9_makeWork 7 rfl) fo_X9_57 ft_X9_4 hO (by decide) (by omega) (Nat.le_of_ble_eq_true rfl) ?_
    refine hz_mem (pc := 14) (M2 := (va_up M 20 (.inr (9, [.ref 21, .ref 22, .ref 23, .ref 24, .int t])))) rfl ?_
    refine hz_aloadn (pc := 14) 0 (hz_dec kX9_makeWork 8 rfl) rfl ?_
    refine hz_iloadn (pc := 15) 1 (hz_dec kX9_makeWork 9 rfl) rfl ?_
    refine hz_callV (pc := 16) (a := 20) (As := [.int t]) (st := []) (hz_dec kX9_makeWork 10 rfl) co_X9_49 im_X9_load se_X9_load rfl (va_up_self _ _ _) (by decide) (by omega) (c_load (wb := t) (t := t) (va_up_self _ _ _) hz (hz_mne h21 (by decide)) (by omega) (by omega)) rfl (by decide) ⟨Nat.le_refl _, Nat.le_refl _⟩ (Nat.le_of_ble_eq_true rfl) rfl (fun r9 z9 M9 hp9 => ?_)
    obtain ⟨rfl, rfl, f1, hf1, rfl⟩ := hp9
    refine hz_lconst (pc := 19) (v := lN 1) (hz_dec kX9_makeWork 11 rfl) (by decide) ?_
    refine hz_lstoren (pc := 20) (i := 2) (lo2 := [(2, .long (lN 1)), (0, .ref 20), (1, .int t)]) (hz_dec kX9_makeWork 12 rfl) rfl (by decide) rfl ?_
    refine hz_bipush (pc := 21) (v := nI 7) (hz_dec kX9_makeWork 13 rfl) (by decide) ?_
    refine hz_istore (pc := 23) (i := 4) (lo2 := [(4, .int (nI 7)), (2, .long (lN 1)), (0, .ref 20), (1, .int t)]) (hz_dec kX9_makeWork 14 rfl) (by decide) rfl ?_
    refine hz_pick (pc := 25) [0, 1, 2] rfl ?_
    refine hz_mem (hz_upid (M := (va_up (va_up M 20 (.inr (9, [.ref 21, .ref 22, .ref 23, .ref 24, .int t]))) 21 (.inl (0, 8, .inl f1)))) (b := 22) (hz_mne (hz_mne h22 (by decide)) (by decide))).symm ?_
    refine c_mw_1 (wb := t) (M := (va_up (va_up M 20 (.inr (9, [.ref 21, .ref 22, .ref 23, .ref 24, .int t]))) 21 (.inl (0, 8, .inl f1)))) (hz_mne (va_up_self _ _ _) (by decide)) hz (va_up_self _ _ _) (hz_mne (hz_mne h22 (by decide)) (by decide)) (fun f2 c2 hc2 => ?_) 8 1 a22 _ (by decide) (by omega) (by omega) (by rw [show 8 - 8 = 0 from rfl]; simp [bg])
    rw [hf1] at hc2
    have hd := mw_d hT hc2
    have hdl := mw_e hT
    refine hz_aloadn (pc := 65) 0 (hz_dec kX9_makeWork 39 rfl) rfl ?_
    refine hz_get (pc := 66) (hz_dec kX9_makeWork 40 rfl) fo_X9_21 (hz_mne (hz_mne (va_up_self _ _ _) (by decide)) (by decide)) (by decide) (by omega) rfl ?_
    refine hz_iconst (pc := 69) (v := nI 0) (hz_dec kX9_makeWork 41 rfl) (by decide) ?_
    refine hz_callS (pc := 70) (As := [.ref 24, .int (nI 0)]) (st := []) (hz_dec kX9_makeWork 42 rfl) co_X9_30 sc_J7_fill_53178 (c_fillI (v := nI 0) (hz_mne (hz_mne (hz_mne h24 (by decide)) (by decide)) (by decide)) (by decide) (by omega) (by decide)) rfl (by decide) ⟨Nat.le_refl _, Nat.le_refl _⟩ (Nat.le_of_ble_eq_true rfl) rfl (fun r9 z9 M9 hp9 => ?_)
    obtain ⟨rfl, rfl, f3, hf3, rfl⟩ := hp9
    refine hz_aloadn (pc := 73) 0 (hz_dec kX9_makeWork 43 rfl) rfl ?_
    refine hz_get (pc := 74) (hz_dec kX9_makeWork 44 rfl) fo_X9_18 (hz_mne (hz_mne (hz_mne (va_up_self _ _ _) (by decide)) (by decide)) (by decide)) (by decide) (by omega) rfl ?_
    refine hz_iconst (pc := 77) (v := nI 0) (hz_dec kX9_makeWork 45 rfl) (by decide) ?_
    refine hz_callS (pc := 78) (As := [.ref 23, .int (nI 0)]) (st := []) (hz_dec kX9_makeWork 46 rfl) co_X9_30 sc_J7_fill_53178 (c_fillI (v := nI 0) (hz_mne (hz_mne (hz_mne (hz_mne h23 (by decide)) (by decide)) (by decide)) (by decide)) (by decide) (by omega) (by decide)) rfl (by decide) ⟨Nat.le_refl _, Nat.le_refl _⟩ (Nat.le_of_ble_eq_true rfl) rfl (fun r9 z9 M9 hp9 => ?_)
    obtain ⟨rfl, rfl, f4, hf4, rfl⟩ := hp9
    refine hz_aloadn (pc := 81) 0 (hz_dec kX9_makeWork 47 rfl) rfl ?_
    refine hz_get (pc := 82) (hz_dec kX9_makeWork 48 rfl) fo_X9_18 (hz_mne (hz_mne (hz_mne (hz_mne (va_up_self _ _ _) (by decide)) (by decide)) (by decide)) (by decide)) (by decide) (by omega) rfl ?_
    refine hz_bipush (pc := 85) (v := nI 7) (hz_dec kX9_makeWork 49 rfl) (by decide) ?_
    refine hz_iconst (pc := 87) (v := nI 1) (hz_dec kX9_makeWork 50 rfl) (by decide) ?_
    refine hz_iast (pc := 88) (j := 7) (hz_dec kX9_makeWork 51 rfl) (va_up_self _ _ _) (by decide) (by omega) rfl (by omega) (by decide) ?_
    refine hz_mem (pc := 89) (M2 := (va_up (va_up (va_up (va_up (va_up M 20 (.inr (9, [.ref 21, .ref 22, .ref 23, .ref 24, .int t]))) 21 (.inl (0, 8, .inl (f1)))) 22 (.inl (0, 8, .inl (f2)))) 24 (.inl (0, 8, .inl (f3)))) 23 (.inl (0, 8, .inl (upd f4 7 ((nI (1)))))))) (bx_uu _ _ _ _) ?_
    refine hz_iconst (pc := 89) (v := nI 0) (hz_dec kX9_makeWork 52 rfl) (by decide) ?_
    refine hz_istore (pc := 90) (i := 4) (lo2 := [(4, .int (nI 0)), (0, .ref 20)]) (hz_dec kX9_makeWork 53 rfl) (by decide) rfl ?_
    refine hz_pick (pc := 92) [0, 1] rfl ?_
    have hone : bg (upd f4 7 (nI 1)) 0 8 = 1 := by
      have q2 : bg (upd f4 7 (nI 1)) 0 8 = bg f4 0 7 * 4294967296 + un (nI 1) := bg_eU (n := 0)
      rw [q2, bg_zero 7 (fun i hi => by rw [Nat.zero_add]; exact hf4 i (by omega))]
      rw [Nat.zero_mul, Nat.zero_add]
      exact un_nI (by decide)
    refine hz_mem (pc := 92) (M2 := va_up (va_up (va_up (va_up (va_up M 20 (.inr (9, [.ref 21, .ref 22, .ref 23, .ref 24, .int t]))) 21 (.inl (0, 8, .inl f1))) 22 (.inl (0, 8, .inl f2))) 23 (.inl (0, 8, .inl (upd f4 7 (nI 1))))) 24 (.inl (0, 8, .inl f3))) (up_comm (by decide)) ?_
    refine c_mw_2 (wb := t) (M := (va_up (va_up (va_up M 20 (.inr (9, [.ref 21, .ref 22, .ref 23, .ref 24, .int t]))) 21 (.inl (0, 8, .inl f1))) 22 (.inl (0, 8, .inl f2)))) (hz_mne (hz_mne (va_up_self _ _ _) (by decide)) (by decide)) hz (va_up_self _ _ _) (hz_mne (hz_mne (hz_mne h23 (by decide)) (by decide)) (by decide)) (hz_mne (hz_mne (hz_mne h24 (by decide)) (by decide)) (by decide)) (by omega) (by rw [hd]; exact hdl) (fun r w hw => ?_) 256 0 _ f3 rfl (by omega) (by rw [hone, bg_zero 8 (fun i hi => by rw [Nat.zero_add]; exact hf3 i hi)]; simp) (by omega)
    rw [hd] at hw
    refine ⟨rfl, rfl, ?_, ⟨t, hz_mne (hz_mne (hz_mne (hz_mne (va_up_self _ _ _) (by decide)) (by decide)) (by decide)) (by decide), ⟨f1, hz_mne (hz_mne (hz_mne (va_up_self _ _ _) (by decide)) (by decide)) (by decide)⟩, ⟨f2, hz_mne (hz_mne (va_up_self _ _ _) (by decide)) (by decide)⟩, ⟨r, hz_mne (va_up_self _ _ _) (by decide)⟩, w, va_up_self _ _ _, fun _ => hw⟩, w, va_up_self _ _ _, hw⟩
    exact ((((frl.zup (os := [20, 21, 22, 23, 24]) rfl).tr (os3 := [20, 21, 22, 23, 24]) (frl.zup (os := [20, 21, 22, 23, 24]) rfl) rfl rfl).tr (os3 := [20, 21, 22, 23, 24]) (frl.zup (os := [20, 21, 22, 23, 24]) rfl) rfl rfl).tr (os3 := [20, 21, 22, 23, 24]) (frl.zup (os := [20, 21, 22, 23, 24]) rfl) rfl rfl).tr (frl.zup (os := [20, 21, 22, 23, 24]) rfl) rfl rfl
  · skip
    subst h1
    exact hz_vret (pc := 8) (hz_dec kX9_makeWork 4 rfl) rfl ⟨rfl, rfl, frl.rf, hk, a24, h24, hW hR⟩
