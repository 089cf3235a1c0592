/-! the reference: the digits of a transaction -/
/-- a byte of a signature of one of the first n inputs -/
def sgZ (n j : Nat) : Bool := decide (2 ≤ j ∧ j < 2 + 73 * n ∧ 9 ≤ (j - 2) % 73)
theorem sgZ_st {k j : Nat} : sgZ (k + 1) j = true ↔ sgZ k j = true ∨ (2 + 73 * k + 9 ≤ j ∧ j < 2 + 73 * k + 9 + 64) := by unfold sgZ; rw [decide_eq_true_eq, decide_eq_true_eq]; omega
theorem sgZ_0 {j : Nat} : ¬ sgZ 0 j = true := by unfold sgZ; rw [decide_eq_true_eq]; omega
def sgB (f : Nat → Int32) (at_ n : Nat) (j : Nat) : Int32 := if sgZ n j then 0 else f (at_ + j)
set_option maxHeartbeats 4000000 in
set_option maxRecDepth 100000 in
theorem c_dO_1 {κ : hz_C} {z : Nat} {M : hz_M} {B : Nat} {fs : List Value} (hO : M B = .inr (12, fs)) (hF : md_F B fs) (h8 : 8 ≤ B) (hz : B + 88 ≤ z) {r nb at_ s n : Nat} {f g0 : Nat → Int32} (hR : M r = .inl (1, nb, .inl f)) (hr8 : 8 ≤ r) (hrz : r < z) (hnb : nb < 2 ^ 24) (hs0 : 0 < s) (hs : s ≤ 400) (hrr : at_ + s ≤ nb) (hn4 : n ≤ 4) (hfn : f at_ = nI n) (hG : M (B + 52) = .inl (1, 400, .inl g0)) (hro : r ≠ B + 52) {P : hz_P} (K : ∀ g : Nat → Int32, (∀ j, j < s → bb (g j) = bb (f (at_ + j))) → hz_W κ xX12_digitsOf 3 0 0 P 0 0 28 [(0, .ref B), (1, .ref r), (2, .int (nI at_)), (3, .int (nI s))] [] z (va_up M (B + 52) (.inl (1, 400, .inl g)))) : ∀ k i g, k = s - i → i ≤ s → (∀ j, j < i → bb (g j) = bb (f (at_ + j))) → hz_W κ xX12_digitsOf 3 0 0 P 0 0 3 [(4, .int (nI i)), (0, .ref B), (1, .ref r), (2, .int (nI at_)), (3, .int (nI s))] [] z (va_up M (B + 52) (.inl (1, 400, .inl g))) := by
  intro k
  induction k using Nat.strongRecOn with
  | ind k ih =>
  intro i g hk hi hg
  refine hz_iload (pc := 3) 0 (hz_dec kX12_digitsOf 2 rfl) rfl ?_
  refine hz_iloadn (pc := 5) 4 (hz_dec kX12_digitsOf 3 rfl) rfl ?_
  refine hz_n_ge (pc := 6) (tgt := 28) (hz_dec kX12_digitsOf 4 rfl) (by decide) (by omega) (by omega) (fun h1 => ?_) (fun h1 => ?_)
  · skip
    have e : i = s := by omega
    subst e
    refine hz_pick (pc := 28) [1, 2, 3, 4] rfl ?_
    exact K g hg
  · skip
    refine hz_aloadn (pc := 9) 1 (hz_dec kX12_digitsOf 5 rfl) rfl ?_
    refine hz_get (pc := 10) (v := .ref (B + 52)) (hz_dec kX12_digitsOf 6 rfl) fo_X12_174 (hz_mne hO (by omega)) h8 (by omega) (hF.2 60 (by decide) (by decide)) ?_
    refine hz_iload (pc := 13) 0 (hz_dec kX12_digitsOf 7 rfl) rfl ?_
    refine hz_aloadn (pc := 15) 2 (hz_dec kX12_digitsOf 8 rfl) rfl ?_
    refine hz_iloadn (pc := 16) 3 (hz_dec kX12_digitsOf 9 rfl) rfl ?_
    refine hz_iload (pc := 17) 0 (hz_dec kX12_digitsOf 10 rfl) rfl ?_
    refine hz_addN (pc := 19) (hz_dec kX12_digitsOf 11 rfl) ?_
    refine hz_bald (pc := 20) (j := at_ + i) (hz_dec kX12_digitsOf 12 rfl) (hz_mne hR hro) hr8 hrz rfl (by omega) (by omega) ?_
    refine hz_bast (pc := 21) (j := i) (hz_dec kX12_digitsOf 13 rfl) (va_up_self _ _ _) (by omega) (by omega) rfl (by omega) (by decide) ?_
    refine hz_mem (pc := 22) (M2 := (va_up M (B + 52) (.inl (1, 400, .inl (upd g i ((f (at_ + i)).toInt8.toInt32)))))) (bx_uu _ _ _ _) ?_
    refine hz_incN (pc := 22) (i := 4) (lo2 := [(4, .int (nI (i + 1))), (0, .ref B), (1, .ref r), (2, .int (nI at_)), (3, .int (nI s))]) 0 (hz_dec kX12_digitsOf 14 rfl) rfl (by decide) rfl ?_
    refine hz_goto (pc := 25) (tgt := 3) (hz_dec kX12_digitsOf 15 rfl) (by decide) ?_
    refine hz_pick (pc := 3) [0, 1, 2, 3, 4] rfl ?_
    refine ih (s - (i + 1)) (by omega) (i + 1) _ rfl (by omega) (fun j hj => ?_)
    simp only [upd]
    split
    · next e => subst e; rw [bb_i8]
    · exact hg j (by omega)
set_option maxHeartbeats 4000000 in
set_option maxRecDepth 100000 in
theorem c_dO_2 {κ : hz_C} {z : Nat} {M : hz_M} {B : Nat} {fs : List Value} (hO : M B = .inr (12, fs)) (hF : md_F B fs) (h8 : 8 ≤ B) (hz : B + 88 ≤ z) {r nb at_ s n : Nat} {f g0 : Nat → Int32} (hR : M r = .inl (1, nb, .inl f)) (hr8 : 8 ≤ r) (hrz : r < z) (hnb : nb < 2 ^ 24) (hs0 : 0 < s) (hs : s ≤ 400) (hrr : at_ + s ≤ nb) (hn4 : n ≤ 4) (hfn : f at_ = nI n) (hG : M (B + 52) = .inl (1, 400, .inl g0)) (hro : r ≠ B + 52) {P : hz_P} {q : Nat} (hq : q < 4) (K : ∀ g : Nat → Int32, (∀ j, j < s → bb (g j) = if sgZ (q + 1) j then 0 else bb (f (at_ + j))) → hz_W κ xX12_digitsOf 3 0 0 P 0 0 76 [(4, .int (nI q)), (0, .ref B), (1, .ref r), (2, .int (nI at_)), (3, .int (nI s))] [] z (va_up M (B + 52) (.inl (1, 400, .inl g)))) : ∀ k i g, k = 64 - i → i ≤ 64 → (∀ j, j < s → bb (g j) = if sgZ q j ∨ (2 + 73 * q + 9 ≤ j ∧ j < 2 + 73 * q + 9 + i) then 0 else bb (f (at_ + j))) → hz_W κ xX12_digitsOf 3 0 0 P 0 0 44 [(5, .int (nI i)), (4, .int (nI q)), (0, .ref B), (1, .ref r), (2, .int (nI at_)), (3, .int (nI s))] [] z (va_up M (B + 52) (.inl (1, 400, .inl g))) := by
  intro k
  induction k using Nat.strongRecOn with
  | ind k ih =>
  intro i g hk hi hg
  refine hz_iload (pc := 44) 0 (hz_dec kX12_digitsOf 25 rfl) rfl ?_
  refine hz_bipush (pc := 46) (v := nI 64) (hz_dec kX12_digitsOf 26 rfl) (by decide) ?_
  refine hz_n_ge (pc := 48) (tgt := 76) (hz_dec kX12_digitsOf 27 rfl) (by decide) (by omega) (by omega) (fun h1 => ?_) (fun h1 => ?_)
  · skip
    have e : i = 64 := by omega
    subst e
    refine hz_pick (pc := 76) [1, 2, 3, 4, 5] rfl ?_
    refine K g (fun j hj => ?_)
    rw [hg j hj]
    by_cases c : sgZ (q + 1) j
    · rw [if_pos c, if_pos (sgZ_st.mp c)]
    · rw [if_neg c, if_neg (fun d => c (sgZ_st.mpr d))]
  · skip
    refine hz_aloadn (pc := 51) 2 (hz_dec kX12_digitsOf 28 rfl) rfl ?_
    refine hz_get (pc := 52) (v := .ref (B + 52)) (hz_dec kX12_digitsOf 29 rfl) fo_X12_174 (hz_mne hO (by omega)) h8 (by omega) (hF.2 60 (by decide) (by decide)) ?_
    refine hz_iconst (pc := 55) (v := nI 2) (hz_dec kX12_digitsOf 30 rfl) (by decide) ?_
    refine hz_bipush (pc := 56) (v := nI 73) (hz_dec kX12_digitsOf 31 rfl) (by decide) ?_
    refine hz_iload (pc := 58) 1 (hz_dec kX12_digitsOf 32 rfl) rfl ?_
    refine hz_mulN (pc := 60) (hz_dec kX12_digitsOf 33 rfl) ?_
    refine hz_addN (pc := 61) (hz_dec kX12_digitsOf 34 rfl) ?_
    refine hz_bipush (pc := 62) (v := nI 9) (hz_dec kX12_digitsOf 35 rfl) (by decide) ?_
    refine hz_addN (pc := 64) (hz_dec kX12_digitsOf 36 rfl) ?_
    refine hz_iload (pc := 65) 0 (hz_dec kX12_digitsOf 37 rfl) rfl ?_
    refine hz_addN (pc := 67) (hz_dec kX12_digitsOf 38 rfl) ?_
    refine hz_iconst (pc := 68) (v := nI 0) (hz_dec kX12_digitsOf 39 rfl) (by decide) ?_
    refine hz_bast (pc := 69) (j := ((2 + (73 * q)) + 9) + i) (hz_dec kX12_digitsOf 40 rfl) (va_up_self _ _ _) (by omega) (by omega) rfl (by omega) (by decide) ?_
    refine hz_mem (pc := 70) (M2 := (va_up M (B + 52) (.inl (1, 400, .inl (upd g (((2 + (73 * q)) + 9) + i) ((nI (0)).toInt8.toInt32)))))) (bx_uu _ _ _ _) ?_
    refine hz_incN (pc := 70) (i := 5) (lo2 := [(5, .int (nI (i + 1))), (4, .int (nI q)), (0, .ref B), (1, .ref r), (2, .int (nI at_)), (3, .int (nI s))]) 0 (hz_dec kX12_digitsOf 41 rfl) rfl (by decide) rfl ?_
    refine hz_goto (pc := 73) (tgt := 44) (hz_dec kX12_digitsOf 42 rfl) (by decide) ?_
    refine hz_pick (pc := 44) [0, 1, 2, 3, 4, 5] rfl ?_
    refine ih (64 - (i + 1)) (by omega) (i + 1) _ rfl (by omega) (fun j hj => ?_)
    simp only [upd]
    split
    · next e => rw [if_pos (Or.inr (by omega))]; rfl
    · next e =>
      rw [hg j hj]
      by_cases c : sgZ q j ∨ (2 + 73 * q + 9 ≤ j ∧ j < 2 + 73 * q + 9 + i)
      · rw [if_pos c, if_pos (c.elim Or.inl (fun d => Or.inr (by omega)))]
      · rw [if_neg c, if_neg (fun d => c (d.elim Or.inl (fun d => Or.inr (by omega))))]
set_option maxHeartbeats 4000000 in
set_option maxRecDepth 100000 in
theorem c_dO_3 {κ : hz_C} {z : Nat} {M : hz_M} {B : Nat} {fs : List Value} (hO : M B = .inr (12, fs)) (hF : md_F B fs) (h8 : 8 ≤ B) (hz : B + 88 ≤ z) {r nb at_ s n : Nat} {f g0 : Nat → Int32} (hR : M r = .inl (1, nb, .inl f)) (hr8 : 8 ≤ r) (hrz : r < z) (hnb : nb < 2 ^ 24) (hs0 : 0 < s) (hs : s ≤ 400) (hrr : at_ + s ≤ nb) (hn4 : n ≤ 4) (hfn : f at_ = nI n) (hG : M (B + 52) = .inl (1, 400, .inl g0)) (hro : r ≠ B + 52) {P : hz_P} (K : ∀ g : Nat → Int32, (∀ j, j < s → bb (g j) = if sgZ n j then 0 else bb (f (at_ + j))) → hz_W κ xX12_digitsOf 3 0 0 P 0 0 82 [(0, .ref B), (3, .int (nI s))] [] z (va_up M (B + 52) (.inl (1, 400, .inl g)))) : ∀ k q g, k = n - q → q ≤ n → (∀ j, j < s → bb (g j) = if sgZ q j then 0 else bb (f (at_ + j))) → hz_W κ xX12_digitsOf 3 0 0 P 0 0 31 [(4, .int (nI q)), (0, .ref B), (1, .ref r), (2, .int (nI at_)), (3, .int (nI s))] [] z (va_up M (B + 52) (.inl (1, 400, .inl g))) := by
  intro k
  induction k using Nat.strongRecOn with
  | ind k ih =>
  intro q g hk hi hg
  refine hz_iload (pc := 31) 0 (hz_dec kX12_digitsOf 18 rfl) rfl ?_
  refine hz_aloadn (pc := 33) 2 (hz_dec kX12_digitsOf 19 rfl) rfl ?_
  refine hz_iloadn (pc := 34) 3 (hz_dec kX12_digitsOf 20 rfl) rfl ?_
  refine hz_xS (pc := 35) (As := [.ref r, .int (nI at_)]) (st := [.int (nI q)]) (hz_dec kX12_digitsOf 21 rfl) co_X12_482 sc_X12_inputsOf (c_minputsOf (hz_mne hR hro) hr8 hrz (by omega) (by omega)) rfl (by decide) ⟨Nat.le_refl _, Nat.le_refl _⟩ (Nat.le_of_ble_eq_true rfl) rfl ?_
  refine hz_eqi (pc := 38) hfn ?_
  refine hz_n_ge (pc := 38) (tgt := 82) (hz_dec kX12_digitsOf 22 rfl) (by decide) (by omega) (by omega) (fun h1 => ?_) (fun h1 => ?_)
  · skip
    have e : q = n := by omega
    subst e
    refine hz_pick (pc := 82) [1, 4] rfl ?_
    exact K g hg
  · skip
    refine hz_iconst (pc := 41) (v := nI 0) (hz_dec kX12_digitsOf 23 rfl) (by decide) ?_
    refine hz_istore (pc := 42) (i := 5) (lo2 := [(5, .int (nI 0)), (4, .int (nI q)), (0, .ref B), (1, .ref r), (2, .int (nI at_)), (3, .int (nI s))]) (hz_dec kX12_digitsOf 24 rfl) (by decide) rfl ?_
    refine hz_pick (pc := 44) [0, 1, 2, 3, 4, 5] rfl ?_
    refine c_dO_2 hO hF h8 hz hR hr8 hrz hnb hs0 hs hrr hn4 hfn hG hro (by omega) (fun g2 hg2 => ?_) 64 0 g rfl (by omega) (fun j hj => ?_)
    · skip
      refine hz_incN (pc := 76) (i := 4) (lo2 := [(4, .int (nI (q + 1))), (0, .ref B), (1, .ref r), (2, .int (nI at_)), (3, .int (nI s))]) 0 (hz_dec kX12_digitsOf 43 rfl) rfl (by decide) rfl ?_
      refine hz_goto (pc := 79) (tgt := 31) (hz_dec kX12_digitsOf 44 rfl) (by decide) ?_
      refine hz_pick (pc := 31) [0, 1, 2, 3, 4] rfl ?_
      exact ih (n - (q + 1)) (by omega) (q + 1) g2 rfl (by omega) hg2
    · rw [hg j hj]
      by_cases c : sgZ q j
      · rw [if_pos c, if_pos (Or.inl c)]
      · rw [if_neg c, if_neg (fun d => d.elim c (fun d => by omega))]
set_option maxHeartbeats 4000000 in
set_option maxRecDepth 100000 in
theorem c_digitsOf {κ : hz_C} {z : Nat} {M : hz_M} {B : Nat} (hk : md_k B M z) (hsc : md_s B M) {r nb at_ s n : Nat} {f g0 : Nat → Int32} (hR : M r = .inl (1, nb, .inl f)) (hr8 : 8 ≤ r) (hrz : r < z) (hnb : nb < 2 ^ 24) (hs0 : 0 < s) (hs : s ≤ 400) (hrr : at_ + s ≤ nb) (hn4 : n ≤ 4) (hfn : f at_ = nI n) (hG : M (B + 52) = .inl (1, 400, .inl g0)) (hro : r ≠ B + 52) : hz_Mt κ xX12_digitsOf 3 0 0 [.ref B, .ref r, .int (nI at_), .int (nI s)] z M (fun rr z2 M2 => none = rr ∧ z = z2 ∧ frl B [3, 4, 5, 9, 52] M M2 ∧ md_s B M2 ∧ (∃ q : Nat → Int32, M2 (B + 9) = .inl (0, 8, .inl q) ∧ ∀ j, j < 8 → q j = nI (dgA (sh_h (sgB f at_ n) 0 s 0) j)) ∧ ∃ g : Nat → Int32, M2 (B + 52) = .inl (1, 400, .inl g)) := by
  refine hz_ent (lo := [(0, .ref B), (1, .ref r), (2, .int (nI at_)), (3, .int (nI s))]) (by decide) (Nat.le_of_ble_eq_true rfl) rfl ?_
  obtain ⟨⟨fs, hO, hF⟩, -, -, h8, hz⟩ := id hk
  refine hz_iconst (pc := 0) (v := nI 0) (hz_dec kX12_digitsOf 0 rfl) (by decide) ?_
  refine hz_istore (pc := 1) (i := 4) (lo2 := [(4, .int (nI 0)), (0, .ref B), (1, .ref r), (2, .int (nI at_)), (3, .int (nI s))]) (hz_dec kX12_digitsOf 1 rfl) (by decide) rfl ?_
  refine hz_pick (pc := 3) [0, 1, 2, 3, 4] rfl ?_
  refine hz_mem (hz_upid hG).symm ?_
  refine c_dO_1 hO hF h8 hz hR hr8 hrz hnb hs0 hs hrr hn4 hfn hG hro (fun g1 hg1 => ?_) s 0 g0 rfl (by omega) (fun j hj => absurd hj (by omega))
  refine hz_iconst (pc := 28) (v := nI 0) (hz_dec kX12_digitsOf 16 rfl) (by decide) ?_
  refine hz_istore (pc := 29) (i := 4) (lo2 := [(4, .int (nI 0)), (0, .ref B), (1, .ref r), (2, .int (nI at_)), (3, .int (nI s))]) (hz_dec kX12_digitsOf 17 rfl) (by decide) rfl ?_
  refine hz_pick (pc := 31) [0, 1, 2, 3, 4] rfl ?_
  refine c_dO_3 hO hF h8 hz hR hr8 hrz hnb hs0 hs hrr hn4 hfn hG hro (fun g2 hg2 => ?_) n 0 g1 rfl (by omega) (fun j hj => by rw [if_neg sgZ_0]; exact hg1 j hj)
  refine hz_aloadn (pc := 82) 0 (hz_dec kX12_digitsOf 45 rfl) rfl ?_
  refine hz_aloadn (pc := 83) 0 (hz_dec kX12_digitsOf 46 rfl) rfl ?_
  refine hz_get (pc := 84) (v := .ref (B + 52)) (hz_dec kX12_digitsOf 47 rfl) fo_X12_174 (hz_mne hO (by omega)) h8 (by omega) (hF.2 60 (by decide) (by decide)) ?_
  refine hz_iconst (pc := 87) (v := nI 0) (hz_dec kX12_digitsOf 48 rfl) (by decide) ?_
  refine hz_iloadn (pc := 88) 1 (hz_dec kX12_digitsOf 49 rfl) rfl ?_
  have hkA : md_k B (va_up M (B + 52) (.inl (1, 400, .inl (g2)))) z := hk.fr (frl.up (os := [52]) rfl) rfl rfl rfl
  obtain ⟨⟨v3, h3⟩, ⟨u4, h4⟩, ⟨d5, h5⟩, ⟨s6, h6⟩, ⟨g7, h7⟩, ⟨e8, h88⟩, ⟨q9, h9⟩⟩ := id hsc
  have hsA : md_s B (va_up M (B + 52) (.inl (1, 400, .inl (g2)))) := ⟨⟨v3, hz_mne h3 (by omega)⟩, ⟨u4, hz_mne h4 (by omega)⟩, ⟨d5, hz_mne h5 (by omega)⟩, ⟨s6, hz_mne h6 (by omega)⟩, ⟨g7, hz_mne h7 (by omega)⟩, ⟨e8, hz_mne h88 (by omega)⟩, ⟨q9, hz_mne h9 (by omega)⟩⟩
  refine hz_callV (pc := 89) (a := B) (As := [.ref (B + 52), .int (nI 0), .int (nI s)]) (st := []) (hz_dec kX12_digitsOf 50 rfl) co_X12_326 im_X12_hashOf se_X12_hashOf rfl (hz_mne hO (by omega)) h8 (by omega) (c_hashF (at_ := 0) (n := s) hkA hsA (va_up_self _ _ _) (by omega) (by omega) (by decide) (by omega)) rfl (by decide) ⟨Nat.le_refl _, Nat.le_refl _⟩ (Nat.le_of_ble_eq_true rfl) rfl (fun r9 z9 M1 hp9 => ?_)
  obtain ⟨rfl, rfl, hf1, hs1, d, hd, hdc⟩ := hp9
  have eH : sh_h g2 0 s = sh_h (sgB f at_ n) 0 s := sh_h_c (fun i hi => by
    rw [Nat.zero_add, hg2 i hi]
    unfold sgB
    by_cases c : sgZ n i
    · rw [if_pos c, if_pos c]; rfl
    · rw [if_neg c, if_neg c])
  rw [eH] at hdc
  obtain ⟨a3, a4, a5, a6, a7, a8, ⟨q1, hq1⟩⟩ := id hs1
  refine hz_aloadn (pc := 92) 0 (hz_dec kX12_digitsOf 51 rfl) rfl ?_
  refine hz_callV (pc := 93) (a := B) (As := []) (st := []) (hz_dec kX12_digitsOf 52 rfl) co_X12_509 im_X12_findDigits se_X12_findDigits rfl ((hf1.at0 rfl).trans (hz_mne hO (by omega))) h8 (by omega) (c_findD ((hf1.at0 rfl).trans (hz_mne hO (by omega))) hF h8 hz hd hdc hq1) rfl (by decide) ⟨Nat.le_refl _, Nat.le_refl _⟩ (Nat.le_of_ble_eq_true rfl) rfl (fun r9 z9 M9 hp9 => ?_)
  obtain ⟨rfl, rfl, q2, hq2, rfl⟩ := hp9
  obtain ⟨⟨w3, b3⟩, ⟨w4, b4⟩, ⟨w5, b5⟩, ⟨w6, b6⟩, ⟨w7, b7⟩, ⟨w8, b8⟩, -⟩ := hs1
  exact hz_vret (pc := 96) (hz_dec kX12_digitsOf 53 rfl) rfl ⟨rfl, rfl, ((frl.up (os := [52]) rfl).tr (os3 := [3, 4, 5, 9, 52]) hf1 rfl rfl).tr (frl.up (os := [9]) rfl) rfl rfl, ⟨⟨w3, hz_mne b3 (by omega)⟩, ⟨w4, hz_mne b4 (by omega)⟩, ⟨w5, hz_mne b5 (by omega)⟩, ⟨w6, hz_mne b6 (by omega)⟩, ⟨w7, hz_mne b7 (by omega)⟩, ⟨w8, hz_mne b8 (by omega)⟩, ⟨q2, va_up_self _ _ _⟩⟩, ⟨q2, va_up_self _ _ _, hq2⟩, g2, hz_mne ((hf1.at 52 rfl).trans (va_up_self _ _ _)) (by omega)⟩
