/-! Target.load of any bits; Judge.works -/
set_option maxHeartbeats 4000000 in
set_option maxRecDepth 100000 in
theorem c_putB9 {κ : hz_C} {z : Nat} {M : hz_M} {wb : Int32} (hO : M 20 = .inr (9, [.ref 21, .ref 22, .ref 23, .ref 24, .int wb])) (hz : 25 ≤ z) {f0 : Nat → Int32} (h21 : M 21 = .inl (0, 8, .inl f0)) {q w9 : Int32} : hz_Mt κ xX9_putByte 0 0 0 [.ref 20, .int q, .int w9] z M (fun r z2 M2 => none = r ∧ z = z2 ∧ ∃ f : Nat → Int32, va_up M 21 (.inl (0, 8, .inl f)) = M2) := by
  refine hz_ent (lo := [(0, .ref 20), (1, .int q), (2, .int w9)]) (by decide) (Nat.le_of_ble_eq_true rfl) rfl ?_
  refine hz_iloadn (pc := 0) 1 (hz_dec kX9_putByte 0 rfl) rfl ?_
  refine hz_if_lt (pc := 1) (tgt := 32) (hz_dec kX9_putByte 1 rfl) (by decide) (fun h1 => ?_) (fun h1 => ?_)
  · skip
    exact hz_vret (pc := 32) (hz_dec kX9_putByte 23 rfl) rfl ⟨rfl, rfl, f0, hz_upid h21⟩
  · skip
    refine hz_iloadn (pc := 4) 1 (hz_dec kX9_putByte 2 rfl) rfl ?_
    refine hz_bipush (pc := 5) (v := nI 32) (hz_dec kX9_putByte 3 rfl) (by decide) ?_
    refine hz_icmp_ge (pc := 7) (tgt := 32) (hz_dec kX9_putByte 4 rfl) (by decide) (fun h2 => ?_) (fun h2 => ?_)
    · skip
      exact hz_vret (pc := 32) (hz_dec kX9_putByte 23 rfl) rfl ⟨rfl, rfl, f0, hz_upid h21⟩
    · skip
      obtain ⟨i, hi, rfl⟩ := i_nat h1 (Int32.not_le.mp h2) (by decide)
      refine hz_aloadn (pc := 10) 0 (hz_dec kX9_putByte 5 rfl) rfl ?_
      refine hz_get (pc := 11) (hz_dec kX9_putByte 6 rfl) fo_X9_9 hO (by decide) (by omega) rfl ?_
      refine hz_iloadn (pc := 14) 1 (hz_dec kX9_putByte 7 rfl) rfl ?_
      refine hz_iconst (pc := 15) (v := nI 4) (hz_dec kX9_putByte 8 rfl) (by decide) ?_
      refine hz_divN (pc := 16) (hz_dec kX9_putByte 9 rfl) (by omega) (by decide) (by decide) ?_
      refine hz_dup2 (pc := 17) (hz_dec kX9_putByte 10 rfl) rfl rfl ?_
      refine hz_iald (pc := 18) (j := i / 4) (hz_dec kX9_putByte 11 rfl) h21 (by decide) (by omega) rfl (by omega) (by decide) ?_
      refine hz_iloadn (pc := 19) 2 (hz_dec kX9_putByte 12 rfl) rfl ?_
      refine hz_bipush (pc := 20) (v := nI 24) (hz_dec kX9_putByte 13 rfl) (by decide) ?_
      refine hz_bipush (pc := 22) (v := nI 8) (hz_dec kX9_putByte 14 rfl) (by decide) ?_
      refine hz_iloadn (pc := 24) 1 (hz_dec kX9_putByte 15 rfl) rfl ?_
      refine hz_iconst (pc := 25) (v := nI 4) (hz_dec kX9_putByte 16 rfl) (by decide) ?_
      refine hz_remN (pc := 26) (hz_dec kX9_putByte 17 rfl) (by omega) (by decide) (by decide) ?_
      refine hz_mulN (pc := 27) (hz_dec kX9_putByte 18 rfl) ?_
      refine hz_subN (pc := 28) (hz_dec kX9_putByte 19 rfl) (by omega) ?_
      refine hz_ishl (pc := 29) (hz_dec kX9_putByte 20 rfl) ?_
      refine hz_ior (pc := 30) (hz_dec kX9_putByte 21 rfl) ?_
      refine hz_iast (pc := 31) (j := i / 4) (hz_dec kX9_putByte 22 rfl) h21 (by decide) (by omega) rfl (by omega) (by decide) ?_
      exact hz_vret (pc := 32) (hz_dec kX9_putByte 23 rfl) rfl ⟨rfl, rfl, _, rfl⟩
set_option maxHeartbeats 4000000 in
set_option maxRecDepth 100000 in
theorem c_load9_l {κ : hz_C} {z : Nat} {M : hz_M} {wb : Int32} (hO : M 20 = .inr (9, [.ref 21, .ref 22, .ref 23, .ref 24, .int wb])) (hz : 25 ≤ z) {f0 : Nat → Int32} (h21 : M 21 = .inl (0, 8, .inl f0)) {t q : Int32} : ∀ k i f, k = 3 - i → i ≤ 3 → hz_W κ xX9_load 1 0 0 (fun r z2 M2 => none = r ∧ z = z2 ∧ ∃ f : Nat → Int32, va_up M 21 (.inl (0, 8, .inl f)) = M2) 0 0 18 [(3, .int (nI i)), (0, .ref 20), (1, .int t), (2, .int q)] [] z (va_up M 21 (.inl (0, 8, .inl f))) := by
  intro k
  induction k using Nat.strongRecOn with
  | ind k ih =>
  intro i f hk hi
  refine hz_iloadn (pc := 18) 0 (hz_dec kX9_load 12 rfl) rfl ?_
  refine hz_iconst (pc := 19) (v := nI 3) (hz_dec kX9_load 13 rfl) (by decide) ?_
  refine hz_n_ge (pc := 20) (tgt := 49) (hz_dec kX9_load 14 rfl) (by decide) (by omega) (by omega) (fun h1 => ?_) (fun h1 => ?_)
  · skip
    exact hz_vret (pc := 49) (hz_dec kX9_load 31 rfl) rfl ⟨rfl, rfl, f, rfl⟩
  · skip
    refine hz_aloadn (pc := 23) 1 (hz_dec kX9_load 15 rfl) rfl ?_
    refine hz_iloadn (pc := 24) 3 (hz_dec kX9_load 16 rfl) rfl ?_
    refine hz_iloadn (pc := 25) 0 (hz_dec kX9_load 17 rfl) rfl ?_
    refine hz_iadd (pc := 26) (hz_dec kX9_load 18 rfl) ?_
    refine hz_iloadn (pc := 27) 2 (hz_dec kX9_load 19 rfl) rfl ?_
    refine hz_bipush (pc := 28) (v := nI 16) (hz_dec kX9_load 20 rfl) (by decide) ?_
    refine hz_bipush (pc := 30) (v := nI 8) (hz_dec kX9_load 21 rfl) (by decide) ?_
    refine hz_iloadn (pc := 32) 0 (hz_dec kX9_load 22 rfl) rfl ?_
    refine hz_mulN (pc := 33) (hz_dec kX9_load 23 rfl) ?_
    refine hz_subN (pc := 34) (hz_dec kX9_load 24 rfl) (by omega) ?_
    refine hz_iushr (pc := 35) (hz_dec kX9_load 25 rfl) ?_
    refine hz_sipush (pc := 36) (v := nI 255) (hz_dec kX9_load 26 rfl) (by decide) ?_
    refine hz_andB (pc := 39) (hz_dec kX9_load 27 rfl) ?_
    refine hz_callV (pc := 40) (a := 20) (As := [.int ((q) + (nI (i))), .int (nI (bb (((t).toUInt32 >>> ((nI (16 - (8 * i))).toUInt32 &&& Int32.toUInt32 31)).toInt32)))]) (st := []) (hz_dec kX9_load 28 rfl) co_X9_36 im_X9_putByte se_X9_putByte rfl (hz_mne hO (by omega)) (by decide) (by omega) (c_putB9 (hz_mne hO (by omega)) hz (va_up_self _ _ _)) rfl (by decide) ⟨Nat.le_refl _, Nat.le_refl _⟩ (Nat.le_of_ble_eq_true rfl) rfl (fun r9 z9 M9 hp9 => ?_)
    obtain ⟨rfl, rfl, f2, rfl⟩ := hp9
    refine hz_mem (pc := 43) (M2 := (va_up M 21 (.inl (0, 8, .inl (f2))))) (bx_uu _ _ _ _) ?_
    refine hz_incN (pc := 43) (i := 3) (lo2 := [(3, .int (nI (i + 1))), (0, .ref 20), (1, .int t), (2, .int q)]) 0 (hz_dec kX9_load 29 rfl) rfl (by decide) rfl ?_
    refine hz_goto (pc := 46) (tgt := 18) (hz_dec kX9_load 30 rfl) (by decide) ?_
    refine hz_pick (pc := 18) [0, 1, 2, 3] rfl ?_
    exact ih (3 - (i + 1)) (by omega) (i + 1) f2 rfl (by omega)
set_option maxHeartbeats 4000000 in
set_option maxRecDepth 100000 in
theorem c_load9 {κ : hz_C} {z : Nat} {M : hz_M} {wb : Int32} (hO : M 20 = .inr (9, [.ref 21, .ref 22, .ref 23, .ref 24, .int wb])) (hz : 25 ≤ z) {f0 : Nat → Int32} (h21 : M 21 = .inl (0, 8, .inl f0)) {t : Int32} : hz_Mt κ xX9_load 1 0 0 [.ref 20, .int t] z M (fun r z2 M2 => none = r ∧ z = z2 ∧ ∃ f : Nat → Int32, va_up M 21 (.inl (0, 8, .inl f)) = M2) := by
  refine hz_ent (lo := [(0, .ref 20), (1, .int t)]) (by decide) (Nat.le_of_ble_eq_true rfl) rfl ?_
  refine hz_aloadn (pc := 0) 0 (hz_dec kX9_load 0 rfl) rfl ?_
  refine hz_get (pc := 1) (hz_dec kX9_load 1 rfl) fo_X9_9 hO (by decide) (by omega) rfl ?_
  refine hz_iconst (pc := 4) (v := nI 0) (hz_dec kX9_load 2 rfl) (by decide) ?_
  refine hz_callS (pc := 5) (As := [.ref 21, .int (nI 0)]) (st := []) (hz_dec kX9_load 3 rfl) co_X9_30 sc_J7_fill_53178 (c_fillI (v := nI 0) h21 (by decide) (by omega) (by decide)) rfl (by decide) ⟨Nat.le_refl _, Nat.le_refl _⟩ (Nat.le_of_ble_eq_true rfl) rfl (fun r9 z9 M9 hp9 => ?_)
  obtain ⟨rfl, rfl, f1, hf1, rfl⟩ := hp9
  refine hz_bipush (pc := 8) (v := nI 32) (hz_dec kX9_load 4 rfl) (by decide) ?_
  refine hz_iloadn (pc := 10) 1 (hz_dec kX9_load 5 rfl) rfl ?_
  refine hz_bipush (pc := 11) (v := nI 24) (hz_dec kX9_load 6 rfl) (by decide) ?_
  refine hz_iushr (pc := 13) (hz_dec kX9_load 7 rfl) ?_
  refine hz_isub (pc := 14) (hz_dec kX9_load 8 rfl) ?_
  refine hz_topi (pc := 15) (fun y1 ey1 => ?_)
  refine hz_istoren (pc := 15) (i := 2) (lo2 := [(2, .int y1), (0, .ref 20), (1, .int t)]) (hz_dec kX9_load 9 rfl) rfl (by decide) rfl ?_
  refine hz_iconst (pc := 16) (v := nI 0) (hz_dec kX9_load 10 rfl) (by decide) ?_
  refine hz_istoren (pc := 17) (i := 3) (lo2 := [(3, .int (nI 0)), (2, .int y1), (0, .ref 20), (1, .int t)]) (hz_dec kX9_load 11 rfl) rfl (by decide) rfl ?_
  refine hz_pick (pc := 18) [0, 2, 3, 1] rfl ?_
  exact c_load9_l hO hz h21 3 0 f1 rfl (by omega)
/-- a header whose bits are right and whose hash meets them -/
def wkS (h : by_L) : Bool := tgR (bn_int (lf h) 68) && decide (bg (sh_2 (shS h)) 0 8 ≤ tgT (bn_int (lf h) 68))
def hhH (h : by_L) : by_L := dgS (sh_2 (shS h))
theorem bg_c0 {f g : Nat → Int32} (h : ∀ j, j < 8 → f j = g j) : bg f 0 8 = bg g 0 8 := bg_c 8 (fun i hi => by rw [Nat.zero_add]; exact h i hi)
theorem ck_w.fs {M M2 : hz_M} (h : ck_w M) (e : ∀ q, 20 ≤ q → q < 25 → M2 q = M q) : ck_w M2 := by
  obtain ⟨wb, h20, ⟨f1, h21⟩, ⟨f2, h22⟩, ⟨f3, h23⟩, ⟨f4, h24, hq⟩⟩ := h
  exact ⟨wb, (e _ (by decide) (by decide)).trans h20, ⟨f1, (e _ (by decide) (by decide)).trans h21⟩, ⟨f2, (e _ (by decide) (by decide)).trans h22⟩, ⟨f3, (e _ (by decide) (by decide)).trans h23⟩, ⟨f4, (e _ (by decide) (by decide)).trans h24, hq⟩⟩
theorem frS.at3 {a b c d e f q : Nat} {M M2 : hz_M} (h : frS [(a, b), (c, d), (e, f)] M M2) (h9 : (q < a ∨ b ≤ q) ∧ (q < c ∨ d ≤ q) ∧ (q < e ∨ f ≤ q)) : M2 q = M q := h q (show (q < a ∨ b ≤ q) ∧ (q < c ∨ d ≤ q) ∧ (q < e ∨ f ≤ q) ∧ True from ⟨h9.1, h9.2.1, h9.2.2, trivial⟩)
set_option maxHeartbeats 4000000 in
set_option maxRecDepth 100000 in
theorem c_works {κ : hz_C} {z : Nat} {M : hz_M} (hk : ck_k M z) (hs : ck_s M) (hw : ck_w M) {bf : Int32} {fe : Int64} (hj : juO M bf fe) {f37 : Nat → Int32} (h37 : M 37 = .inl (1, 32, .inl f37)) {b n at_ : Nat} {f : Nat → Int32} {h : by_L} (hB : M b = .inl (1, n, .inl f)) (hb8 : 39 ≤ b) (hbz : b < z) (hn : n < 2 ^ 24) (hA : isA f at_ h) (hl : h.length = 80) (hat : at_ + 80 ≤ n) : hz_Mt κ xX3_works 3 0 0 [.ref 25, .ref b, .int (nI at_)] z M (fun r z2 M2 => some (.int (hz_b (wkS h))) = r ∧ z = z2 ∧ frS [(10, 13), (21, 22), (37, 38)] M M2 ∧ ck_k M2 z ∧ ck_s M2 ∧ ck_w M2 ∧ ∃ fh : Nat → Int32, M2 37 = .inl (1, 32, .inl fh) ∧ isA fh 0 (hhH h)) := by
  refine hz_ent (lo := [(0, .ref 25), (1, .ref b), (2, .int (nI at_))]) (by decide) (Nat.le_of_ble_eq_true rfl) rfl ?_
  obtain ⟨-, -, hz63⟩ := id hk
  refine hz_aloadn (pc := 0) 0 (hz_dec kX3_works 0 rfl) rfl ?_
  refine hz_get (pc := 1) (hz_dec kX3_works 1 rfl) fo_X3_36 hj (by omega) (by omega) rfl ?_
  refine hz_aloadn (pc := 4) 1 (hz_dec kX3_works 2 rfl) rfl ?_
  refine hz_iloadn (pc := 5) 2 (hz_dec kX3_works 3 rfl) rfl ?_
  refine hz_bipush (pc := 6) (v := nI 80) (hz_dec kX3_works 4 rfl) (by decide) ?_
  refine hz_callV (pc := 8) (a := 9) (As := [.ref b, .int (nI at_), .int (nI 80)]) (st := []) (hz_dec kX3_works 5 rfl) co_X3_48 im_X8_digest se_X8_digest rfl hk.1 (by omega) (by omega) (c_digF (at_ := at_) (n := 80) hk hs hB (by omega) hbz (by omega) (by omega)) rfl (by decide) ⟨Nat.le_refl _, Nat.le_refl _⟩ (Nat.le_of_ble_eq_true rfl) rfl (fun r9 z9 M1 hp9 => ?_)
  obtain ⟨rfl, rfl, hf1, hs1, v1, hv1, hvc1⟩ := hp9
  rw [shS_of hA hl] at hvc1
  have hk1 : ck_k M1 z := hk.fr hf1 rfl rfl
  have hj1 : juO M1 bf fe := (hf1.z 25 rfl).trans hj
  refine hz_aloadn (pc := 11) 0 (hz_dec kX3_works 6 rfl) rfl ?_
  refine hz_get (pc := 12) (hz_dec kX3_works 7 rfl) fo_X3_36 hj1 (by omega) (by omega) rfl ?_
  refine hz_callV (pc := 15) (a := 9) (As := []) (st := []) (hz_dec kX3_works 8 rfl) co_X3_54 im_X8_again se_X8_again rfl hk1.1 (by omega) (by omega) (c_agF hk1 hs1 hv1) rfl (by decide) ⟨Nat.le_refl _, Nat.le_refl _⟩ (Nat.le_of_ble_eq_true rfl) rfl (fun r9 z9 M2 hp9 => ?_)
  obtain ⟨rfl, rfl, hf2, hs2, v2, hv2, hvc2⟩ := hp9
  have hvc : ∀ j, j < 8 → v2 j = sh_2 (shS h) j := fun j hj => by rw [hvc2 j hj, sh_2_c hvc1]
  have hk2 : ck_k M2 z := hk1.fr hf2 rfl rfl
  have hj2 : juO M2 bf fe := (hf2.z 25 rfl).trans hj1
  have hF2 : frS [(10, 13), (21, 22), (37, 38)] M M2 := (hf1.S0 rfl).tr (hf2.S0 rfl)
  have h372 : M2 37 = .inl (1, 32, .inl f37) := (hf2.z 37 rfl).trans ((hf1.z 37 rfl).trans h37)
  refine hz_aloadn (pc := 18) 0 (hz_dec kX3_works 9 rfl) rfl ?_
  refine hz_get (pc := 19) (hz_dec kX3_works 10 rfl) fo_X3_36 hj2 (by omega) (by omega) rfl ?_
  refine hz_aloadn (pc := 22) 0 (hz_dec kX3_works 11 rfl) rfl ?_
  refine hz_get (pc := 23) (hz_dec kX3_works 12 rfl) fo_X3_29 hj2 (by omega) (by omega) rfl ?_
  refine hz_iconst (pc := 26) (v := nI 0) (hz_dec kX3_works 13 rfl) (by decide) ?_
  refine hz_callV (pc := 27) (a := 9) (As := [.ref 37, .int (nI 0)]) (st := []) (hz_dec kX3_works 14 rfl) co_X3_57 im_X8_writeTo se_X8_writeTo rfl hk2.1 (by omega) (by omega) (c_writeTo (at_ := 0) hk2.1 hv2 ⟨by decide, by omega⟩ ⟨by decide, by omega⟩ ⟨by decide, by omega⟩ (by decide) (by omega) h372) rfl (by decide) ⟨Nat.le_refl _, Nat.le_refl _⟩ (Nat.le_of_ble_eq_true rfl) rfl (fun r9 z9 M9 hp9 => ?_)
  obtain ⟨rfl, rfl, fh, hw1, -, rfl⟩ := hp9
  have hwA : ck_w (va_up M2 37 (.inl (1, 32, .inl (fh)))) := hw.fs (fun q q1 q2 => by
    have e1 : va_up M2 37 (.inl (1, 32, .inl fh)) q = M2 q := va_up_ne _ _ (by omega)
    have e2 : M2 q = M1 q := hf2 q (fun o ho => by simp only [List.mem_cons, List.not_mem_nil, or_false] at ho; omega)
    have e3 : M1 q = M q := hf1 q (fun o ho => by simp only [List.mem_cons, List.not_mem_nil, or_false] at ho; omega)
    exact e1.trans (e2.trans e3))
  have hBA : (va_up M2 37 (.inl (1, 32, .inl (fh)))) b = .inl (1, n, .inl f) := hz_mne ((hF2.at3 (by omega)).trans hB) (by omega)
  have hsA : ck_s (va_up M2 37 (.inl (1, 32, .inl (fh)))) := hs2.up (by decide)
  have hkA : ck_k (va_up M2 37 (.inl (1, 32, .inl (fh)))) z := hk2.up (by decide)
  have hAH : isA fh 0 (hhH h) := isA_dg (fun j hj => by rw [hw1 j hj]; exact sh_dg_c hj hvc)
  obtain ⟨wb, h20, ⟨f21, h21⟩, -⟩ := id hwA
  refine hz_aloadn (pc := 30) 1 (hz_dec kX3_works 15 rfl) rfl ?_
  refine hz_iloadn (pc := 31) 2 (hz_dec kX3_works 16 rfl) rfl ?_
  refine hz_bipush (pc := 32) (v := nI 68) (hz_dec kX3_works 17 rfl) (by decide) ?_
  refine hz_addN (pc := 34) (hz_dec kX3_works 18 rfl) ?_
  refine hz_iconst (pc := 35) (v := nI 4) (hz_dec kX3_works 19 rfl) (by decide) ?_
  refine hz_xS (pc := 36) (As := [.ref b, .int (nI (at_ + 68)), .int (nI 4)]) (st := []) (hz_dec kX3_works 20 rfl) co_X3_61 sc_X0_number (c_number hBA (by omega) hbz (by omega) (by omega)) rfl (by decide) ⟨Nat.le_refl _, Nat.le_refl _⟩ (Nat.le_of_ble_eq_true rfl) rfl ?_
  refine hz_l2i (pc := 39) (hz_dec kX3_works 21 rfl) ?_
  refine hz_eqi (pc := 40) (show _ = bn_int (lf h) 68 by rw [bn_int_l, int_of hA (by omega)]) ?_
  refine hz_istoren (pc := 40) (i := 3) (lo2 := [(3, .int (bn_int (lf h) 68)), (0, .ref 25), (1, .ref b), (2, .int (nI at_))]) (hz_dec kX3_works 22 rfl) rfl (by decide) rfl ?_
  refine hz_aloadn (pc := 41) 1 (hz_dec kX3_works 23 rfl) rfl ?_
  refine hz_get (pc := 42) (hz_dec kX3_works 24 rfl) fo_X3_44 (hz_mne hj2 (by omega)) (by omega) (by omega) rfl ?_
  refine hz_iloadn (pc := 45) 0 (hz_dec kX3_works 25 rfl) rfl ?_
  by_cases cR : tgR (bn_int (lf h) 68) = true
  · skip
    refine hz_callV (pc := 46) (a := 20) (As := [.int (bn_int (lf h) 68)]) (st := []) (hz_dec kX3_works 26 rfl) co_X3_67 im_X9_load se_X9_load rfl (hz_mne h20 (by omega)) (by decide) (by omega) (c_load h20 (by omega) h21 (by have q := (tgR_b cR).1; omega) (tgR_b cR).2.1) rfl (by decide) ⟨Nat.le_refl _, Nat.le_refl _⟩ (Nat.le_of_ble_eq_true rfl) rfl (fun r9 z9 M9 hp9 => ?_)
    obtain ⟨rfl, rfl, fa, hfa, rfl⟩ := hp9
    refine hz_iloadn (pc := 49) 0 (hz_dec kX3_works 27 rfl) rfl ?_
    refine hz_xS (pc := 50) (As := [.int (bn_int (lf h) 68)]) (st := []) (hz_dec kX3_works 28 rfl) co_X3_73 sc_X9_isRight (c_isRight) rfl (by decide) ⟨Nat.le_refl _, Nat.le_refl _⟩ (Nat.le_of_ble_eq_true rfl) rfl ?_
    refine hz_if_eq (pc := 53) (tgt := 77) (hz_dec kX3_works 29 rfl) (by decide) (fun h1 => ?_) (fun h1 => ?_)
    · skip
      refine hz_iconst (pc := 77) (v := nI 0) (hz_dec kX3_works 39 rfl) (by decide) ?_
      exact hz_zret (pc := 78) (hz_dec kX3_works 40 rfl) rfl rfl ⟨by rw [show wkS h = false from by unfold wkS; rw [hz_b0 h1, Bool.false_and]]; rfl, rfl, (hF2.upr (by simp only [outS, and_true]; omega)).upr (by simp only [outS, and_true]; omega), hkA.up (by decide), hsA.up (by decide), hwA.up21, fh, hz_mne (va_up_self _ _ _) (by decide), hAH⟩
    · skip
      refine hz_aloadn (pc := 56) 1 (hz_dec kX3_works 30 rfl) rfl ?_
      refine hz_get (pc := 57) (hz_dec kX3_works 31 rfl) fo_X3_44 (hz_mne (hz_mne hj2 (by decide)) (by omega)) (by omega) (by omega) rfl ?_
      refine hz_aloadn (pc := 60) 1 (hz_dec kX3_works 32 rfl) rfl ?_
      refine hz_get (pc := 61) (hz_dec kX3_works 33 rfl) fo_X3_36 (hz_mne (hz_mne hj2 (by decide)) (by omega)) (by omega) (by omega) rfl ?_
      refine hz_get (pc := 64) (hz_dec kX3_works 34 rfl) fo_X3_77 (hz_mne hkA.1 (by omega)) (by decide) (by omega) rfl ?_
      refine hz_xV (pc := 67) (a := 20) (As := [.ref 10]) (st := []) (hz_dec kX3_works 35 rfl) co_X3_80 im_X9_isMetBy se_X9_isMetBy rfl (hz_mne h20 (by omega)) (by decide) (by omega) (c_isMet (hz_mne h20 (by omega)) (by omega) (va_up_self _ _ _) (hz_mne (hz_mne hv2 (by decide)) (by omega)) (by decide) (by omega) (by decide) (by decide)) rfl (by decide) ⟨Nat.le_refl _, Nat.le_refl _⟩ (Nat.le_of_ble_eq_true rfl) rfl ?_
      refine hz_eqi (pc := 70) (show _ = hz_b (decide (bg (sh_2 (shS h)) 0 8 ≤ tgT (bn_int (lf h) 68))) by rw [hfa, bg_c0 hvc]) ?_
      refine hz_if_eq (pc := 70) (tgt := 77) (hz_dec kX3_works 36 rfl) (by decide) (fun h2 => ?_) (fun h2 => ?_)
      · skip
        refine hz_iconst (pc := 77) (v := nI 0) (hz_dec kX3_works 39 rfl) (by decide) ?_
        exact hz_zret (pc := 78) (hz_dec kX3_works 40 rfl) rfl rfl ⟨by rw [show wkS h = false from by unfold wkS; rw [hz_b0 h2, Bool.and_false]]; rfl, rfl, (hF2.upr (by simp only [outS, and_true]; omega)).upr (by simp only [outS, and_true]; omega), hkA.up (by decide), hsA.up (by decide), hwA.up21, fh, hz_mne (va_up_self _ _ _) (by decide), hAH⟩
      · skip
        refine hz_iconst (pc := 73) (v := nI 1) (hz_dec kX3_works 37 rfl) (by decide) ?_
        refine hz_goto (pc := 74) (tgt := 78) (hz_dec kX3_works 38 rfl) (by decide) ?_
        exact hz_zret (pc := 78) (hz_dec kX3_works 40 rfl) rfl rfl ⟨by rw [show wkS h = true from by unfold wkS; rw [cR, hz_b1 h2]; rfl]; rfl, rfl, (hF2.upr (by simp only [outS, and_true]; omega)).upr (by simp only [outS, and_true]; omega), hkA.up (by decide), hsA.up (by decide), hwA.up21, fh, hz_mne (va_up_self _ _ _) (by decide), hAH⟩
  · skip
    refine hz_callV (pc := 46) (a := 20) (As := [.int (bn_int (lf h) 68)]) (st := []) (hz_dec kX3_works 26 rfl) co_X3_67 im_X9_load se_X9_load rfl (hz_mne h20 (by omega)) (by decide) (by omega) (c_load9 h20 (by omega) h21) rfl (by decide) ⟨Nat.le_refl _, Nat.le_refl _⟩ (Nat.le_of_ble_eq_true rfl) rfl (fun r9 z9 M9 hp9 => ?_)
    obtain ⟨rfl, rfl, fa, rfl⟩ := hp9
    refine hz_iloadn (pc := 49) 0 (hz_dec kX3_works 27 rfl) rfl ?_
    refine hz_xS (pc := 50) (As := [.int (bn_int (lf h) 68)]) (st := []) (hz_dec kX3_works 28 rfl) co_X3_73 sc_X9_isRight (c_isRight) rfl (by decide) ⟨Nat.le_refl _, Nat.le_refl _⟩ (Nat.le_of_ble_eq_true rfl) rfl ?_
    refine hz_if_eq (pc := 53) (tgt := 77) (hz_dec kX3_works 29 rfl) (by decide) (fun h1 => ?_) (fun h1 => ?_)
    · skip
      refine hz_iconst (pc := 77) (v := nI 0) (hz_dec kX3_works 39 rfl) (by decide) ?_
      exact hz_zret (pc := 78) (hz_dec kX3_works 40 rfl) rfl rfl ⟨by rw [show wkS h = false from by unfold wkS; rw [hz_b0 h1, Bool.false_and]]; rfl, rfl, (hF2.upr (by simp only [outS, and_true]; omega)).upr (by simp only [outS, and_true]; omega), hkA.up (by decide), hsA.up (by decide), hwA.up21, fh, hz_mne (va_up_self _ _ _) (by decide), hAH⟩
    · skip
      exact absurd (hz_b1 h1) cR
