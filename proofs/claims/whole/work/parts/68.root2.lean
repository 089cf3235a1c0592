/-! Judge.makeRoot -/
set_option maxHeartbeats 4000000 in
set_option maxRecDepth 100000 in
theorem c_mkr_1 {κ : hz_C} {z : Nat} {M0 : hz_M} {bf : Int32} {fe : Int64} (hj0 : juO M0 bf fe) (hz : 63 ≤ z) {b n m : Nat} {f s : Nat → Int32} (hB0 : M0 b = .inl (1, n, .inl f)) (hb8 : 39 ≤ b) (hbz : b < z) (hn : n < 2 ^ 24) (h340 : M0 34 = .inl (0, 9, .inl s)) (hm : m ≤ 8) {st : Nat → Nat} (hst : ∀ j, j ≤ m → s j = nI (st j)) {T : Nat → by_L} (hT : ∀ j, j < m → isA f (st j) (T j) ∧ st (j + 1) = st j + (T j).length ∧ st (j + 1) ≤ n) {P : hz_P} (K : ∀ M fr fi, frS [(9, 20), (35, 36), (38, 39)] M0 M → ck_k M z → ck_s M → M 35 = .inl (1, 256, .inl fr) → M 38 = .inl (2, 8, .inr (.inl fi)) → (∀ q, q < m → fi q = idS (T q)) → (∀ q, q < m → isA fr (32 * q) (hhS (T q))) → hz_W κ xX3_makeRoot 3 0 0 P 0 0 84 [(0, .ref 25), (1, .ref b), (2, .int (nI m))] [] z M) : ∀ k j M fr fi, k = m - j → j ≤ m → frS [(9, 20), (35, 36), (38, 39)] M0 M → ck_k M z → ck_s M → M 35 = .inl (1, 256, .inl fr) → M 38 = .inl (2, 8, .inr (.inl fi)) → (∀ q, q < j → fi q = idS (T q)) → (∀ q, q < j → isA fr (32 * q) (hhS (T q))) → hz_W κ xX3_makeRoot 3 0 0 P 0 0 2 [(3, .int (nI j)), (0, .ref 25), (1, .ref b), (2, .int (nI m))] [] z M := by
  intro k
  induction k using Nat.strongRecOn with
  | ind k ih =>
  intro j M fr fi hk_ hjm hfr hk hs h35 h38 hi1 hi2
  have hj : juO M bf fe := (hfr 25 (by simp only [outS, and_true]; omega)).trans hj0
  have hB : M b = .inl (1, n, .inl f) := (hfr b (by simp only [outS, and_true]; omega)).trans hB0
  have h34 : M 34 = .inl (0, 9, .inl s) := (hfr 34 (by simp only [outS, and_true]; omega)).trans h340
  refine hz_iloadn (pc := 2) 0 (hz_dec kX3_makeRoot 2 rfl) rfl ?_
  refine hz_iloadn (pc := 3) 3 (hz_dec kX3_makeRoot 3 rfl) rfl ?_
  refine hz_n_ge (pc := 4) (tgt := 84) (hz_dec kX3_makeRoot 4 rfl) (by decide) (by omega) (by omega) (fun h1 => ?_) (fun h1 => ?_)
  · skip
    have e : j = m := by omega
    subst e
    refine hz_pick (pc := 84) [1, 2, 3] rfl ?_
    exact K M fr fi hfr hk hs h35 h38 hi1 hi2
  · skip
    obtain ⟨t1, t2, t3⟩ := hT j (by omega)
    refine hz_iloadn (pc := 7) 0 (hz_dec kX3_makeRoot 5 rfl) rfl ?_
    refine hz_bipush (pc := 8) (v := nI 8) (hz_dec kX3_makeRoot 6 rfl) (by decide) ?_
    refine hz_n_ge (pc := 10) (tgt := 84) (hz_dec kX3_makeRoot 7 rfl) (by decide) (by omega) (by omega) (fun h2 => ?_) (fun h2 => ?_)
    · skip
      exact absurd h2 (by omega)
    · skip
      refine hz_aloadn (pc := 13) 1 (hz_dec kX3_makeRoot 8 rfl) rfl ?_
      refine hz_get (pc := 14) (hz_dec kX3_makeRoot 9 rfl) fo_X3_36 hj (by omega) (by omega) rfl ?_
      refine hz_aloadn (pc := 17) 2 (hz_dec kX3_makeRoot 10 rfl) rfl ?_
      refine hz_aloadn (pc := 18) 1 (hz_dec kX3_makeRoot 11 rfl) rfl ?_
      refine hz_get (pc := 19) (hz_dec kX3_makeRoot 12 rfl) fo_X3_18 hj (by omega) (by omega) rfl ?_
      refine hz_iloadn (pc := 22) 0 (hz_dec kX3_makeRoot 13 rfl) rfl ?_
      refine hz_iald (pc := 23) (j := j) (hz_dec kX3_makeRoot 14 rfl) h34 (by omega) (by omega) rfl (by omega) (by omega) ?_
      refine hz_eqi (pc := 24) (hst (j) (by omega)) ?_
      refine hz_aloadn (pc := 24) 1 (hz_dec kX3_makeRoot 15 rfl) rfl ?_
      refine hz_get (pc := 25) (hz_dec kX3_makeRoot 16 rfl) fo_X3_18 hj (by omega) (by omega) rfl ?_
      refine hz_iloadn (pc := 28) 0 (hz_dec kX3_makeRoot 17 rfl) rfl ?_
      refine hz_iconst (pc := 29) (v := nI 1) (hz_dec kX3_makeRoot 18 rfl) (by decide) ?_
      refine hz_addN (pc := 30) (hz_dec kX3_makeRoot 19 rfl) ?_
      refine hz_iald (pc := 31) (j := j + 1) (hz_dec kX3_makeRoot 20 rfl) h34 (by omega) (by omega) rfl (by omega) (by omega) ?_
      refine hz_eqi (pc := 32) (hst (j + 1) (by omega)) ?_
      refine hz_aloadn (pc := 32) 1 (hz_dec kX3_makeRoot 21 rfl) rfl ?_
      refine hz_get (pc := 33) (hz_dec kX3_makeRoot 22 rfl) fo_X3_18 hj (by omega) (by omega) rfl ?_
      refine hz_iloadn (pc := 36) 0 (hz_dec kX3_makeRoot 23 rfl) rfl ?_
      refine hz_iald (pc := 37) (j := j) (hz_dec kX3_makeRoot 24 rfl) h34 (by omega) (by omega) rfl (by omega) (by omega) ?_
      refine hz_eqi (pc := 38) (hst (j) (by omega)) ?_
      refine hz_subN (pc := 38) (hz_dec kX3_makeRoot 25 rfl) (by omega) ?_
      refine hz_callV (pc := 39) (a := 9) (As := [.ref b, .int (nI (st (j))), .int (nI ((st (j + 1)) - (st (j))))]) (st := []) (hz_dec kX3_makeRoot 26 rfl) co_X3_48 im_X8_digest se_X8_digest rfl hk.1 (by omega) (by omega) (c_digF (at_ := st j) (n := st (j + 1) - st j) hk hs hB (by omega) hbz (by omega) (by omega)) rfl (by decide) ⟨Nat.le_refl _, Nat.le_refl _⟩ (Nat.le_of_ble_eq_true rfl) rfl (fun r9 z9 M1 hp9 => ?_)
      obtain ⟨rfl, rfl, hf1, hs1, v1, hv1, hvc1⟩ := hp9
      have eS : sh_h f (st j) (st (j + 1) - st j) = shS (T j) := shS_of t1 (by omega)
      rw [eS] at hvc1
      have hk1 : ck_k M1 z := hk.fr hf1 rfl rfl
      have hj1 : juO M1 bf fe := (hf1.z 25 rfl).trans hj
      have h38a : M1 38 = .inl (2, 8, .inr (.inl fi)) := (hf1.z 38 rfl).trans h38
      refine hz_aloadn (pc := 42) 1 (hz_dec kX3_makeRoot 27 rfl) rfl ?_
      refine hz_get (pc := 43) (hz_dec kX3_makeRoot 28 rfl) fo_X3_32 hj1 (by omega) (by omega) rfl ?_
      refine hz_iloadn (pc := 46) 0 (hz_dec kX3_makeRoot 29 rfl) rfl ?_
      refine hz_aloadn (pc := 47) 1 (hz_dec kX3_makeRoot 30 rfl) rfl ?_
      refine hz_get (pc := 48) (hz_dec kX3_makeRoot 31 rfl) fo_X3_36 hj1 (by omega) (by omega) rfl ?_
      refine hz_iconst (pc := 51) (v := nI 0) (hz_dec kX3_makeRoot 32 rfl) (by decide) ?_
      refine hz_xV (pc := 52) (a := 9) (As := [.int (nI 0)]) (st := [.int (nI j), .ref 38]) (hz_dec kX3_makeRoot 33 rfl) co_X3_230 im_X8_limbOf se_X8_limbOf rfl hk1.1 (by omega) (by omega) (c_limbOf (k := 0) hk1.1 hv1 ⟨by decide, by omega⟩ ⟨by decide, by omega⟩ (by decide)) rfl (by decide) ⟨Nat.le_refl _, Nat.le_refl _⟩ (Nat.le_of_ble_eq_true rfl) rfl ?_
      refine hz_eql (pc := 55) (show _ = idS (T j) by rw [sh_lim_c (by decide) hvc1]; rfl) ?_
      refine hz_last (pc := 55) (j := j) (hz_dec kX3_makeRoot 34 rfl) h38a (by omega) (by omega) rfl (by omega) (by omega) ?_
      refine hz_aloadn (pc := 56) 1 (hz_dec kX3_makeRoot 35 rfl) rfl ?_
      refine hz_get (pc := 57) (hz_dec kX3_makeRoot 36 rfl) fo_X3_36 (hz_mne hj1 (by omega)) (by omega) (by omega) rfl ?_
      have hkA : ck_k (va_up M1 38 (.inl (2, 8, .inr (.inl (vp_updL fi j (idS (T j))))))) z := hk1.up (by decide)
      refine hz_callV (pc := 60) (a := 9) (As := []) (st := []) (hz_dec kX3_makeRoot 37 rfl) co_X3_54 im_X8_again se_X8_again rfl (hz_mne hk1.1 (by omega)) (by omega) (by omega) (c_agF hkA (hs1.up (by decide)) (hz_mne hv1 (by decide))) rfl (by decide) ⟨Nat.le_refl _, Nat.le_refl _⟩ (Nat.le_of_ble_eq_true rfl) rfl (fun r9 z9 M2 hp9 => ?_)
      obtain ⟨rfl, rfl, hf2, hs2, v2, hv2, hvc2⟩ := hp9
      have hk2 : ck_k M2 z := hkA.fr hf2 rfl rfl
      have hj2a : juO M2 bf fe := (hf2.z 25 rfl).trans (hz_mne hj1 (by decide))
      have h35b : M2 35 = .inl (1, 256, .inl fr) := (hf2.z 35 rfl).trans (hz_mne ((hf1.z 35 rfl).trans h35) (by decide))
      refine hz_aloadn (pc := 63) 1 (hz_dec kX3_makeRoot 38 rfl) rfl ?_
      refine hz_get (pc := 64) (hz_dec kX3_makeRoot 39 rfl) fo_X3_36 hj2a (by omega) (by omega) rfl ?_
      refine hz_aloadn (pc := 67) 1 (hz_dec kX3_makeRoot 40 rfl) rfl ?_
      refine hz_get (pc := 68) (hz_dec kX3_makeRoot 41 rfl) fo_X3_22 hj2a (by omega) (by omega) rfl ?_
      refine hz_bipush (pc := 71) (v := nI 32) (hz_dec kX3_makeRoot 42 rfl) (by decide) ?_
      refine hz_iloadn (pc := 73) 0 (hz_dec kX3_makeRoot 43 rfl) rfl ?_
      refine hz_mulN (pc := 74) (hz_dec kX3_makeRoot 44 rfl) ?_
      refine hz_callV (pc := 75) (a := 9) (As := [.ref 35, .int (nI (32 * j))]) (st := []) (hz_dec kX3_makeRoot 45 rfl) co_X3_57 im_X8_writeTo se_X8_writeTo rfl hk2.1 (by omega) (by omega) (c_writeTo (at_ := 32 * j) hk2.1 hv2 ⟨by decide, by omega⟩ ⟨by decide, by omega⟩ ⟨by decide, by omega⟩ (by decide) (by omega) h35b) rfl (by decide) ⟨Nat.le_refl _, Nat.le_refl _⟩ (Nat.le_of_ble_eq_true rfl) rfl (fun r9 z9 M9 hp9 => ?_)
      obtain ⟨rfl, rfl, fr2, hw1, hw2, rfl⟩ := hp9
      refine hz_incN (pc := 78) (i := 3) (lo2 := [(3, .int (nI (j + 1))), (0, .ref 25), (1, .ref b), (2, .int (nI m))]) 0 (hz_dec kX3_makeRoot 46 rfl) rfl (by decide) rfl ?_
      refine hz_goto (pc := 81) (tgt := 2) (hz_dec kX3_makeRoot 47 rfl) (by decide) ?_
      refine hz_pick (pc := 2) [0, 1, 2, 3] rfl ?_
      have hfr2 : frS [(9, 20), (35, 36), (38, 39)] M0 M2 := ((hfr.tr (hf1.S0 rfl)).upr (by simp only [outS, and_true]; omega)).tr (hf2.S0 rfl)
      refine ih (m - (j + 1)) (by omega) (j + 1) _ _ (vp_updL fi j (idS (T j))) rfl (by omega) (hfr2.upr (by simp only [outS, and_true]; omega)) (hk2.up (by decide)) (hs2.up (by decide)) (va_up_self _ _ _) (hz_mne ((hf2.z 38 rfl).trans (va_up_self _ _ _)) (by decide)) (fun q hq => ?_) (fun q hq => ?_)
      · simp only [vp_updL]
        split
        · next e => rw [e]
        · exact hi1 q (by omega)
      · rcases (show q = j ∨ q < j by omega) with rfl | c
        · refine isA_dg (fun i hi9 => ?_)
          rw [hw1 i hi9]
          exact sh_dg_c hi9 (fun x hx => by rw [hvc2 x hx, sh_2_c hvc1])
        · refine isA_c (hi2 q c) (fun i hi9 => hw2 _ (Or.inl ?_))
          have e32 : (hhS (T q)).length = 32 := dgS_len _
          omega
set_option maxHeartbeats 4000000 in
set_option maxRecDepth 100000 in
theorem c_mkRoot {κ : hz_C} {z : Nat} {M : hz_M} {bf : Int32} {fe : Int64} (hj0 : juO M bf fe) (hz : 63 ≤ z) {b n m : Nat} {f s : Nat → Int32} (hB0 : M b = .inl (1, n, .inl f)) (hb8 : 39 ≤ b) (hbz : b < z) (hn : n < 2 ^ 24) (h340 : M 34 = .inl (0, 9, .inl s)) (hm : m ≤ 8) {st : Nat → Nat} (hst : ∀ j, j ≤ m → s j = nI (st j)) {T : Nat → by_L} (hT : ∀ j, j < m → isA f (st j) (T j) ∧ st (j + 1) = st j + (T j).length ∧ st (j + 1) ≤ n) (hm1 : 1 ≤ m) (hk : ck_k M z) (hs : ck_s M) {fr : Nat → Int32} {fi : Nat → Int64} (h35 : M 35 = .inl (1, 256, .inl fr)) (h38 : M 38 = .inl (2, 8, .inr (.inl fi))) : hz_Mt κ xX3_makeRoot 3 0 0 [.ref 25, .ref b, .int (nI m)] z M (fun r z2 M2 => none = r ∧ z = z2 ∧ frS [(9, 20), (35, 36), (38, 39)] M M2 ∧ ck_k M2 z ∧ ck_s M2 ∧ (∃ fi : Nat → Int64, M2 38 = .inl (2, 8, .inr (.inl fi)) ∧ ∀ q, q < m → fi q = idS (T q)) ∧ ∃ fr : Nat → Int32, M2 35 = .inl (1, 256, .inl fr) ∧ isA fr 0 (rtF 8 (fun q => hhS (T q)) m)) := by
  refine hz_ent (lo := [(0, .ref 25), (1, .ref b), (2, .int (nI m))]) (by decide) (Nat.le_of_ble_eq_true rfl) rfl ?_
  refine hz_iconst (pc := 0) (v := nI 0) (hz_dec kX3_makeRoot 0 rfl) (by decide) ?_
  refine hz_istoren (pc := 1) (i := 3) (lo2 := [(3, .int (nI 0)), (0, .ref 25), (1, .ref b), (2, .int (nI m))]) (hz_dec kX3_makeRoot 1 rfl) rfl (by decide) rfl ?_
  refine hz_pick (pc := 2) [0, 1, 2, 3] rfl ?_
  refine c_mkr_1 hj0 hz hB0 hb8 hbz hn h340 hm hst hT (fun M1 fr1 fi1 hf1 hk1 hs1 h351 h381 hi1 hi2 => ?_) m 0 M fr fi rfl (by omega) frS.rf hk hs h35 h38 (fun q hq => absurd hq (by omega)) (fun q hq => absurd hq (by omega))
  refine hz_iloadn (pc := 84) 2 (hz_dec kX3_makeRoot 48 rfl) rfl ?_
  refine hz_istoren (pc := 85) (i := 3) (lo2 := [(3, .int (nI m)), (0, .ref 25), (1, .ref b), (2, .int (nI m))]) (hz_dec kX3_makeRoot 49 rfl) rfl (by decide) rfl ?_
  refine hz_pick (pc := 86) [0, 1, 2, 3] rfl ?_
  have hj1 : juO M1 bf fe := (hf1 25 (by simp only [outS, and_true]; omega)).trans hj0
  refine c_mkr_o hj1 hz (R := rtF 8 (fun q => hhS (T q)) m) (fun M2 fr2 q1 q2 q3 q4 q5 q6 => ?_) 8 m (fun q => hhS (T q)) M1 fr1 hm hm1 (by omega) frS.rf hk1 hs1 h351 rfl (fun i _ => dgS_len _) ⟨fun i hi => absurd hi (by omega), fun i _ hi => hi2 i hi⟩ rfl
  exact ⟨rfl, rfl, hf1.tr q1, q2, q3, ⟨fi1, q4.trans h381, hi1⟩, fr2, q5, q6⟩
