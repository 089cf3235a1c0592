/-! the reference: amounts; keeping a digest -/
def amB (v : Int64) : Bool := decide (1 ≤ v ∧ v ≤ 1099511627776)
set_option maxHeartbeats 4000000 in
set_option maxRecDepth 100000 in
theorem c_isAm {κ : hz_C} {z : Nat} {M : hz_M} {B b n : Nat} {f : Nat → Int32} (hM : M b = .inl (1, n, .inl f)) (ha : 8 ≤ b) (hz : b < z) (hn : n < 2 ^ 31) {at_ : Nat} (hr : at_ + 8 ≤ n) : hz_Mt κ xX12_isAmount 1 0 0 [.ref B, .ref b, .int (nI at_)] z M (hz_ex (some (.int (hz_b (amB (bn_num f at_ 8))))) z M) := by
  refine hz_ent (lo := [(0, .ref B), (1, .ref b), (2, .int (nI at_))]) (by decide) (Nat.le_of_ble_eq_true rfl) rfl ?_
  refine hz_aloadn (pc := 0) 1 (hz_dec kX12_isAmount 0 rfl) rfl ?_
  refine hz_iloadn (pc := 1) 2 (hz_dec kX12_isAmount 1 rfl) rfl ?_
  refine hz_xS (pc := 2) (As := [.ref b, .int (nI at_)]) (st := []) (hz_dec kX12_isAmount 2 rfl) co_X12_330 sc_X12_longAt (c_longAt hM ha hz hn hr) rfl (by decide) ⟨Nat.le_refl _, Nat.le_refl _⟩ (Nat.le_of_ble_eq_true rfl) rfl ?_
  refine hz_lstoren (pc := 5) (i := 3) (lo2 := [(3, .long (bn_num f at_ 8)), (0, .ref B), (1, .ref b), (2, .int (nI at_))]) (hz_dec kX12_isAmount 3 rfl) rfl (by decide) rfl ?_
  refine hz_lloadn (pc := 6) 0 (hz_dec kX12_isAmount 4 rfl) rfl ?_
  refine hz_lconst (pc := 7) (v := 1) (hz_dec kX12_isAmount 5 rfl) (by decide) ?_
  refine hz_lcmp (pc := 8) (hz_dec kX12_isAmount 6 rfl) ?_
  refine hz_if_lt (pc := 9) (tgt := 24) (hz_dec kX12_isAmount 7 rfl) (by decide) (fun h1 => ?_) (fun h1 => ?_)
  · skip
    refine hz_iconst (pc := 24) (v := nI 0) (hz_dec kX12_isAmount 14 rfl) (by decide) ?_
    exact hz_zret (pc := 25) (hz_dec kX12_isAmount 15 rfl) rfl rfl ⟨by rw [show amB (bn_num f at_ 8) = false from decide_eq_false (fun q => Int64.not_le.mpr ((lg_cmp_lt _ _).mp h1) q.1)]; rfl, rfl, rfl⟩
  · skip
    refine hz_lloadn (pc := 12) 0 (hz_dec kX12_isAmount 8 rfl) rfl ?_
    refine hz_ldc2 (pc := 13) (v := (1099511627776)) (hz_dec kX12_isAmount 9 rfl) ks_X12_403 ?_
    refine hz_lcmp (pc := 16) (hz_dec kX12_isAmount 10 rfl) ?_
    refine hz_if_gt (pc := 17) (tgt := 24) (hz_dec kX12_isAmount 11 rfl) (by decide) (fun h2 => ?_) (fun h2 => ?_)
    · skip
      refine hz_iconst (pc := 24) (v := nI 0) (hz_dec kX12_isAmount 14 rfl) (by decide) ?_
      exact hz_zret (pc := 25) (hz_dec kX12_isAmount 15 rfl) rfl rfl ⟨by rw [show amB (bn_num f at_ 8) = false from decide_eq_false (fun q => Int32.not_lt.mpr ((lg_cmp_le _ _).mpr q.2) h2)]; rfl, rfl, rfl⟩
    · skip
      refine hz_iconst (pc := 20) (v := nI 1) (hz_dec kX12_isAmount 12 rfl) (by decide) ?_
      refine hz_goto (pc := 21) (tgt := 25) (hz_dec kX12_isAmount 13 rfl) (by decide) ?_
      exact hz_zret (pc := 25) (hz_dec kX12_isAmount 15 rfl) rfl rfl ⟨by rw [show amB (bn_num f at_ 8) = true from decide_eq_true ⟨(lg_cmp_ge _ _).mp (Int32.not_lt.mp h1), (lg_cmp_le _ _).mp (Int32.not_lt.mp h2)⟩]; rfl, rfl, rfl⟩
set_option maxHeartbeats 4000000 in
set_option maxRecDepth 100000 in
theorem c_keepD_l {κ : hz_C} {z : Nat} {M : hz_M} {B : Nat} {fs : List Value} (hO : M B = .inr (12, fs)) (hF : md_F B fs) (h8 : 8 ≤ B) (hz : B + 88 ≤ z) {d : Nat → Int32} (hd : M (B + 5) = .inl (1, 32, .inl d)) (hbd : ∀ j, j < 32 → (d j).toInt8.toInt32 = d j) {r nb at_ : Nat} {f0 : Nat → Int32} (hR : M r = .inl (1, nb, .inl f0)) (hr8 : 8 ≤ r) (hrz : r < z) (hnb : nb < 2 ^ 30) (hrr : at_ + 32 ≤ nb) (hro : r ≠ B + 5) {P : hz_P} (K : ∀ f : Nat → Int32, (∀ j, j < 32 → f (at_ + j) = d j) → (∀ q, q < at_ ∨ at_ + 32 ≤ q → f q = f0 q) → P none z (va_up M r (.inl (1, nb, .inl f)))) : ∀ k i f, k = 32 - i → i ≤ 32 → (∀ j, j < i → f (at_ + j) = d j) → (∀ q, q < at_ ∨ at_ + 32 ≤ q → f q = f0 q) → hz_W κ xX12_keepDigest 0 0 0 P 0 0 2 [(3, .int (nI i)), (0, .ref B), (1, .ref r), (2, .int (nI at_))] [] z (va_up M r (.inl (1, nb, .inl f))) := by
  intro k
  induction k using Nat.strongRecOn with
  | ind k ih =>
  intro i f hk hi hs ho
  have hrB : r ≠ B := fun e => by rw [e, hO] at hR; cases hR
  refine hz_iloadn (pc := 2) 0 (hz_dec kX12_keepDigest 2 rfl) rfl ?_
  refine hz_bipush (pc := 3) (v := nI 32) (hz_dec kX12_keepDigest 3 rfl) (by decide) ?_
  refine hz_n_ge (pc := 5) (tgt := 25) (hz_dec kX12_keepDigest 4 rfl) (by decide) (by omega) (by omega) (fun h1 => ?_) (fun h1 => ?_)
  · skip
    have e : i = 32 := by omega
    subst e
    exact hz_vret (pc := 25) (hz_dec kX12_keepDigest 16 rfl) rfl (K f hs ho)
  · skip
    refine hz_aloadn (pc := 8) 2 (hz_dec kX12_keepDigest 5 rfl) rfl ?_
    refine hz_iloadn (pc := 9) 3 (hz_dec kX12_keepDigest 6 rfl) rfl ?_
    refine hz_iloadn (pc := 10) 0 (hz_dec kX12_keepDigest 7 rfl) rfl ?_
    refine hz_addN (pc := 11) (hz_dec kX12_keepDigest 8 rfl) ?_
    refine hz_aloadn (pc := 12) 1 (hz_dec kX12_keepDigest 9 rfl) rfl ?_
    refine hz_get (pc := 13) (v := .ref (B + 5)) (hz_dec kX12_keepDigest 10 rfl) fo_X12_22 (hz_mne hO (Ne.symm hrB)) h8 (by omega) (hF.2 6 (by decide) (by decide)) ?_
    refine hz_iloadn (pc := 16) 0 (hz_dec kX12_keepDigest 11 rfl) rfl ?_
    refine hz_bald (pc := 17) (j := i) (hz_dec kX12_keepDigest 12 rfl) (hz_mne hd (Ne.symm hro)) (by omega) (by omega) rfl (by omega) (by decide) ?_
    refine hz_bast (pc := 18) (j := at_ + i) (hz_dec kX12_keepDigest 13 rfl) (va_up_self _ _ _) hr8 hrz rfl (by omega) (by omega) ?_
    refine hz_mem (pc := 19) (M2 := (va_up M r (.inl (1, nb, .inl (upd f (at_ + i) ((d i).toInt8.toInt32)))))) (bx_uu _ _ _ _) ?_
    refine hz_incN (pc := 19) (i := 3) (lo2 := [(3, .int (nI (i + 1))), (0, .ref B), (1, .ref r), (2, .int (nI at_))]) 0 (hz_dec kX12_keepDigest 14 rfl) rfl (by decide) rfl ?_
    refine hz_goto (pc := 22) (tgt := 2) (hz_dec kX12_keepDigest 15 rfl) (by decide) ?_
    refine hz_pick (pc := 2) [0, 1, 2, 3] rfl ?_
    refine ih (32 - (i + 1)) (by omega) (i + 1) _ rfl (by omega) (fun j hj => ?_) (fun q hq => ?_)
    · simp only [upd]
      split
      · next e => rw [show j = i by omega]; exact hbd i h1
      · exact hs j (by omega)
    · simp only [upd]; rw [if_neg (by omega)]; exact ho q hq
set_option maxHeartbeats 4000000 in
set_option maxRecDepth 100000 in
theorem c_keepD {κ : hz_C} {z : Nat} {M : hz_M} {B : Nat} {fs : List Value} (hO : M B = .inr (12, fs)) (hF : md_F B fs) (h8 : 8 ≤ B) (hz : B + 88 ≤ z) {d : Nat → Int32} (hd : M (B + 5) = .inl (1, 32, .inl d)) (hbd : ∀ j, j < 32 → (d j).toInt8.toInt32 = d j) {r nb at_ : Nat} {f0 : Nat → Int32} (hR : M r = .inl (1, nb, .inl f0)) (hr8 : 8 ≤ r) (hrz : r < z) (hnb : nb < 2 ^ 30) (hrr : at_ + 32 ≤ nb) (hro : r ≠ B + 5) : hz_Mt κ xX12_keepDigest 0 0 0 [.ref B, .ref r, .int (nI at_)] z M (fun rr z2 M2 => none = rr ∧ z = z2 ∧ ∃ f : Nat → Int32, (∀ j, j < 32 → f (at_ + j) = d j) ∧ (∀ q, q < at_ ∨ at_ + 32 ≤ q → f q = f0 q) ∧ (va_up M r (.inl (1, nb, .inl f))) = M2) := by
  refine hz_ent (lo := [(0, .ref B), (1, .ref r), (2, .int (nI at_))]) (by decide) (Nat.le_of_ble_eq_true rfl) rfl ?_
  refine hz_iconst (pc := 0) (v := nI 0) (hz_dec kX12_keepDigest 0 rfl) (by decide) ?_
  refine hz_istoren (pc := 1) (i := 3) (lo2 := [(3, .int (nI 0)), (0, .ref B), (1, .ref r), (2, .int (nI at_))]) (hz_dec kX12_keepDigest 1 rfl) rfl (by decide) rfl ?_
  refine hz_pick (pc := 2) [0, 1, 2, 3] rfl ?_
  refine hz_mem (hz_upid hR).symm ?_
  exact c_keepD_l hO hF h8 hz hd hbd hR hr8 hrz hnb hrr hro (fun f h1 h2 => ⟨rfl, rfl, f, h1, h2, rfl⟩) 32 0 f0 rfl (by omega) (fun j hj => absurd hj (by omega)) (fun _ _ => rfl)
