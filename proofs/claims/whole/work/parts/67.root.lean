/-! the root of a block's transactions -/
/-- the hash of two hashes, one behind the other -/
def pr2 (a b : by_L) : by_L := dgS (sh_2 (sh_h (fun j => if j < 32 then lf a j else lf b (j - 32)) 0 64))
def lvl (g : Nat → by_L) (n : Nat) : Nat → by_L := fun k => if 2 * k + 1 < n then pr2 (g (2 * k)) (g (2 * k + 1)) else g (2 * k)
def rtF : Nat → (Nat → by_L) → Nat → by_L
  | 0, g, _ => g 0
  | m + 1, g, n => if n ≤ 1 then g 0 else rtF m (lvl g n) ((n + 1) / 2)
def hhS (t : by_L) : by_L := dgS (sh_2 (shS t))
theorem dgS_len (h : Nat → Int32) : (dgS h).length = 32 := cutL_len _ _ _
theorem lf_dgS {h : Nat → Int32} {j : Nat} (hj : j < 32) : lf (dgS h) j = sh_dg h j := by unfold dgS; rw [lf_cutL hj, Nat.zero_add]
theorem pr2_len (a b : by_L) : (pr2 a b).length = 32 := dgS_len _
theorem isA_dg {f : Nat → Int32} {a : Nat} {h : Nat → Int32} (e : ∀ j, j < 32 → f (a + j) = sh_dg h j) : isA f a (dgS h) := by
  intro j hj
  rw [dgS_len] at hj
  rw [e j hj, lf_dgS hj]
theorem lvl_len {g : Nat → by_L} {n : Nat} (h : ∀ k, k < n → (g k).length = 32) : ∀ k, k < (n + 1) / 2 → (lvl g n k).length = 32 := by
  intro k hk
  unfold lvl
  split
  · exact pr2_len _ _
  · exact h _ (by omega)
theorem pr2_of {f : Nat → Int32} {a : Nat} {x y : by_L} (hx : isA f a x) (hy : isA f (a + 32) y) (lx : x.length = 32) (ly : y.length = 32) : dgS (sh_2 (sh_h f a 64)) = pr2 x y := by
  unfold pr2
  rw [sh_h_c (f := f) (a := a) (g := fun j => if j < 32 then lf x j else lf y (j - 32)) (b := 0) (fun i hi => ?_)]
  rw [Nat.zero_add]
  by_cases c : i < 32
  · simp only [if_pos c]
    rw [hx i (by omega)]
  · simp only [if_neg c]
    rw [← hy (i - 32) (by omega), show a + 32 + (i - 32) = a + i by omega]
theorem sh_dg_cc {h k : Nat → Int32} (e : ∀ j, j < 8 → h j = k j) : dgS h = dgS k := by
  refine lf_ext (by rw [dgS_len, dgS_len]) (fun j hj => ?_)
  rw [dgS_len] at hj
  rw [lf_dgS hj, lf_dgS hj, sh_dg_c hj e]
/-- one level, in place -/
def lvI (f : Nat → Int32) (g : Nat → by_L) (n k : Nat) : Prop := (∀ i, i < k → isA f (32 * i) (lvl g n i)) ∧ ∀ i, k ≤ i → i < n → isA f (32 * i) (g i)
theorem lvI.st {f f2 : Nat → Int32} {g : Nat → by_L} {n k : Nat} (h : lvI f g n k) (hl : ∀ i, i < n → (g i).length = 32) (hk : k < (n + 1) / 2) (hn : isA f2 (32 * k) (lvl g n k)) (ho : ∀ q, q < 32 * k ∨ 32 * k + 32 ≤ q → f2 q = f q) : lvI f2 g n (k + 1) := by
  refine ⟨fun i hi => ?_, fun i hi hi2 => ?_⟩
  · rcases (show i = k ∨ i < k by omega) with rfl | c
    · exact hn
    · refine isA_c (h.1 i c) (fun j hj => ho _ (Or.inl ?_))
      rw [lvl_len hl i (by omega)] at hj
      omega
  · exact isA_c (h.2 i (by omega) hi2) (fun j hj => ho _ (Or.inr (by omega)))
theorem lvI.nx {f : Nat → Int32} {g : Nat → by_L} {n : Nat} (h : lvI f g n ((n + 1) / 2)) : lvI f (lvl g n) ((n + 1) / 2) 0 := ⟨fun i hi => absurd hi (by omega), fun i _ hi => h.1 i hi⟩
theorem c_agF {κ : hz_C} {z : Nat} {M : hz_M} (hk : ck_k M z) (hs : ck_s M) {v : Nat → Int32} (hv : M 10 = .inl (0, 8, .inl v)) : hz_Mt κ xX8_again 2 0 0 [.ref 9] z M (ck_F M z [10, 11, 12] none (ck_v (sh_2 v))) := by
  obtain ⟨h9, h13, hz⟩ := id hk
  obtain ⟨-, ⟨u11, h11⟩, ⟨d12, h12⟩, ⟨p14, h14⟩, ⟨q15, h15⟩, ⟨q16, h16⟩, ⟨q17, h17⟩, ⟨q18, h18⟩, ⟨q19, h19⟩⟩ := id hs
  refine (c_again h9 hv ⟨by decide, by omega⟩ ⟨by decide, by omega⟩ h11 h12 ⟨by decide, by omega⟩ ⟨by decide, by omega⟩ (by decide)).weak (fun r z2 M2 hp => ?_)
  obtain ⟨rfl, rfl, g, v2, u2, hv2, rfl⟩ := hp
  refine ⟨rfl, rfl, fun a ha => ?_, ⟨⟨v2, hz_mne (va_up_self _ _ _) (by decide)⟩, ⟨u2, va_up_self _ _ _⟩, ⟨g, hz_mne (hz_mne (va_up_self _ _ _) (by decide)) (by decide)⟩, ⟨p14, hz_mne (hz_mne (hz_mne h14 (by decide)) (by decide)) (by decide)⟩, ⟨q15, hz_mne (hz_mne (hz_mne h15 (by decide)) (by decide)) (by decide)⟩, ⟨q16, hz_mne (hz_mne (hz_mne h16 (by decide)) (by decide)) (by decide)⟩, ⟨q17, hz_mne (hz_mne (hz_mne h17 (by decide)) (by decide)) (by decide)⟩, ⟨q18, hz_mne (hz_mne (hz_mne h18 (by decide)) (by decide)) (by decide)⟩, ⟨q19, hz_mne (hz_mne (hz_mne h19 (by decide)) (by decide)) (by decide)⟩⟩, v2, hz_mne (va_up_self _ _ _) (by decide), hv2⟩
  have a10 : a ≠ 10 := fun c => ha 10 (by decide) (by omega)
  have a11 : a ≠ 11 := fun c => ha 11 (by decide) (by omega)
  have a12 : a ≠ 12 := fun c => ha 12 (by decide) (by omega)
  exact hz_mne (hz_mne (hz_mne rfl a12) a10) a11
theorem ck_s.up {M : hz_M} {a : Nat} {e : va_E} (h : ck_s M) (ha : 20 ≤ a) : ck_s (va_up M a e) := by
  obtain ⟨⟨v10, h10⟩, ⟨u11, h11⟩, ⟨d12, h12⟩, ⟨p14, h14⟩, ⟨q15, h15⟩, ⟨q16, h16⟩, ⟨q17, h17⟩, ⟨q18, h18⟩, ⟨q19, h19⟩⟩ := h
  exact ⟨⟨v10, hz_mne h10 (by omega)⟩, ⟨u11, hz_mne h11 (by omega)⟩, ⟨d12, hz_mne h12 (by omega)⟩, ⟨p14, hz_mne h14 (by omega)⟩, ⟨q15, hz_mne h15 (by omega)⟩, ⟨q16, hz_mne h16 (by omega)⟩, ⟨q17, hz_mne h17 (by omega)⟩, ⟨q18, hz_mne h18 (by omega)⟩, ⟨q19, hz_mne h19 (by omega)⟩⟩
theorem ck_k.up {M : hz_M} {z a : Nat} {e : va_E} (h : ck_k M z) (ha : 20 ≤ a) : ck_k (va_up M a e) z := h.fs (va_up_ne _ _ (by omega)) (va_up_ne _ _ (by omega))
set_option maxHeartbeats 4000000 in
set_option maxRecDepth 100000 in
theorem c_mkr_i {κ : hz_C} {z : Nat} {M0 : hz_M} {bf : Int32} {fe : Int64} (hj0 : juO M0 bf fe) (hz : 63 ≤ z) {P : hz_P} {b m l : Nat} (hl8 : l ≤ 8) {g : Nat → by_L} (hg : ∀ i, i < l → (g i).length = 32) (K : ∀ M fr, frS [(9, 20), (35, 36), (38, 39)] M0 M → ck_k M z → ck_s M → M 35 = .inl (1, 256, .inl fr) → M 38 = M0 38 → lvI fr g l ((l + 1) / 2) → hz_W κ xX3_makeRoot 3 0 0 P 0 0 185 [(3, .int (nI l)), (0, .ref 25), (1, .ref b), (2, .int (nI m))] [] z M) : ∀ k q j M fr, k = (l + 1) / 2 - q → q ≤ (l + 1) / 2 → j = 2 * q → frS [(9, 20), (35, 36), (38, 39)] M0 M → ck_k M z → ck_s M → M 35 = .inl (1, 256, .inl fr) → M 38 = M0 38 → lvI fr g l q → hz_W κ xX3_makeRoot 3 0 0 P 0 0 94 [(4, .int (nI j)), (3, .int (nI l)), (0, .ref 25), (1, .ref b), (2, .int (nI m))] [] z M := by
  intro k
  induction k using Nat.strongRecOn with
  | ind k ih =>
  intro q j M fr hk_ hq hjq hfr hk hs h35 h38 hi
  have hj : juO M bf fe := (hfr 25 (by simp only [outS, and_true]; omega)).trans hj0
  refine hz_iload (pc := 94) 0 (hz_dec kX3_makeRoot 55 rfl) rfl ?_
  refine hz_iloadn (pc := 96) 1 (hz_dec kX3_makeRoot 56 rfl) rfl ?_
  refine hz_n_ge (pc := 97) (tgt := 185) (hz_dec kX3_makeRoot 57 rfl) (by decide) (by omega) (by omega) (fun h1 => ?_) (fun h1 => ?_)
  · skip
    have e : q = (l + 1) / 2 := by omega
    subst e
    refine hz_pick (pc := 185) [1, 2, 3, 4] rfl ?_
    exact K M fr hfr hk hs h35 h38 hi
  · skip
    have hj2 : j / 2 = q := by omega
    refine hz_iload (pc := 100) 0 (hz_dec kX3_makeRoot 58 rfl) rfl ?_
    refine hz_iconst (pc := 102) (v := nI 1) (hz_dec kX3_makeRoot 59 rfl) (by decide) ?_
    refine hz_addN (pc := 103) (hz_dec kX3_makeRoot 60 rfl) ?_
    refine hz_iloadn (pc := 104) 1 (hz_dec kX3_makeRoot 61 rfl) rfl ?_
    refine hz_n_ge (pc := 105) (tgt := 154) (hz_dec kX3_makeRoot 62 rfl) (by decide) (by omega) (by omega) (fun h2 => ?_) (fun h2 => ?_)
    · skip
      refine hz_aloadn (pc := 154) 2 (hz_dec kX3_makeRoot 86 rfl) rfl ?_
      refine hz_get (pc := 155) (hz_dec kX3_makeRoot 87 rfl) fo_X3_22 hj (by omega) (by omega) rfl ?_
      refine hz_bipush (pc := 158) (v := nI 32) (hz_dec kX3_makeRoot 88 rfl) (by decide) ?_
      refine hz_iload (pc := 160) 0 (hz_dec kX3_makeRoot 89 rfl) rfl ?_
      refine hz_mulN (pc := 162) (hz_dec kX3_makeRoot 90 rfl) ?_
      refine hz_aloadn (pc := 163) 2 (hz_dec kX3_makeRoot 91 rfl) rfl ?_
      refine hz_get (pc := 164) (hz_dec kX3_makeRoot 92 rfl) fo_X3_22 hj (by omega) (by omega) rfl ?_
      refine hz_bipush (pc := 167) (v := nI 32) (hz_dec kX3_makeRoot 93 rfl) (by decide) ?_
      refine hz_iload (pc := 169) 0 (hz_dec kX3_makeRoot 94 rfl) rfl ?_
      refine hz_iconst (pc := 171) (v := nI 2) (hz_dec kX3_makeRoot 95 rfl) (by decide) ?_
      refine hz_divN (pc := 172) (hz_dec kX3_makeRoot 96 rfl) (by omega) (by decide) (by decide) ?_
      refine hz_mulN (pc := 173) (hz_dec kX3_makeRoot 97 rfl) ?_
      refine hz_bipush (pc := 174) (v := nI 32) (hz_dec kX3_makeRoot 98 rfl) (by decide) ?_
      refine hz_xS (pc := 176) (As := [.ref 35, .int (nI (32 * j)), .ref 35, .int (nI (32 * (j / 2))), .int (nI 32)]) (st := []) (hz_dec kX3_makeRoot 99 rfl) co_X3_245 sc_X0_copy (c_copy h35 (by decide) (by omega) (by decide) h35 (by decide) (by omega) (by decide) (by omega) (by omega)) rfl (by decide) ⟨Nat.le_refl _, Nat.le_refl _⟩ (Nat.le_of_ble_eq_true rfl) rfl ?_
      refine hz_iinc (pc := 179) (i := 4) (w := nI (j + 2)) (lo2 := [(4, .int (nI (j + 2))), (3, .int (nI l)), (0, .ref 25), (1, .ref b), (2, .int (nI m))]) 0 (hz_dec kX3_makeRoot 100 rfl) rfl (nI_add _ 2) (by decide) rfl ?_
      refine hz_goto (pc := 182) (tgt := 94) (hz_dec kX3_makeRoot 101 rfl) (by decide) ?_
      refine hz_pick (pc := 94) [0, 1, 2, 3, 4] rfl ?_
      refine ih ((l + 1) / 2 - (q + 1)) (by omega) (q + 1) (j + 2) _ _ rfl (by omega) (by omega) (hfr.upr (by simp only [outS, and_true]; omega)) (hk.up (by decide)) (hs.up (by decide)) (va_up_self _ _ _) (hz_mne h38 (by decide)) (hi.st hg (by omega) (fun i hi9 => ?_) (fun i hi9 => ?_))
      · unfold lvl at hi9 ⊢
        rw [if_neg (by omega)] at hi9 ⊢
        rw [hg _ (by omega)] at hi9
        unfold va_cpy
        rw [if_pos (by omega), show 32 * j + (32 * q + i - 32 * (j / 2)) = 32 * (2 * q) + i by omega]
        exact hi.2 (2 * q) (by omega) (by omega) i (by rw [hg _ (by omega)]; exact hi9)
      · unfold va_cpy
        rw [if_neg (by omega)]
    · skip
      refine hz_aloadn (pc := 108) 2 (hz_dec kX3_makeRoot 63 rfl) rfl ?_
      refine hz_get (pc := 109) (hz_dec kX3_makeRoot 64 rfl) fo_X3_36 hj (by omega) (by omega) rfl ?_
      refine hz_aloadn (pc := 112) 2 (hz_dec kX3_makeRoot 65 rfl) rfl ?_
      refine hz_get (pc := 113) (hz_dec kX3_makeRoot 66 rfl) fo_X3_22 hj (by omega) (by omega) rfl ?_
      refine hz_bipush (pc := 116) (v := nI 32) (hz_dec kX3_makeRoot 67 rfl) (by decide) ?_
      refine hz_iload (pc := 118) 0 (hz_dec kX3_makeRoot 68 rfl) rfl ?_
      refine hz_mulN (pc := 120) (hz_dec kX3_makeRoot 69 rfl) ?_
      refine hz_bipush (pc := 121) (v := nI 64) (hz_dec kX3_makeRoot 70 rfl) (by decide) ?_
      refine hz_callV (pc := 123) (a := 9) (As := [.ref 35, .int (nI (32 * j)), .int (nI 64)]) (st := []) (hz_dec kX3_makeRoot 71 rfl) co_X3_48 im_X8_digest se_X8_digest rfl hk.1 (by omega) (by omega) (c_digF (at_ := 32 * j) (n := 64) hk hs h35 (by decide) (by omega) (by decide) (by omega)) rfl (by decide) ⟨Nat.le_refl _, Nat.le_refl _⟩ (Nat.le_of_ble_eq_true rfl) rfl (fun r9 z9 M1 hp9 => ?_)
      obtain ⟨rfl, rfl, hf1, hs1, v1, hv1, hvc1⟩ := hp9
      have hk1 : ck_k M1 z := hk.fr hf1 rfl rfl
      have hj1 : juO M1 bf fe := (hf1.z 25 rfl).trans hj
      refine hz_aloadn (pc := 126) 2 (hz_dec kX3_makeRoot 72 rfl) rfl ?_
      refine hz_get (pc := 127) (hz_dec kX3_makeRoot 73 rfl) fo_X3_36 hj1 (by omega) (by omega) rfl ?_
      refine hz_callV (pc := 130) (a := 9) (As := []) (st := []) (hz_dec kX3_makeRoot 74 rfl) co_X3_54 im_X8_again se_X8_again rfl hk1.1 (by omega) (by omega) (c_agF hk1 hs1 hv1) rfl (by decide) ⟨Nat.le_refl _, Nat.le_refl _⟩ (Nat.le_of_ble_eq_true rfl) rfl (fun r9 z9 M2 hp9 => ?_)
      obtain ⟨rfl, rfl, hf2, hs2, v2, hv2, hvc2⟩ := hp9
      have hk2 : ck_k M2 z := hk1.fr hf2 rfl rfl
      have hj2a : juO M2 bf fe := (hf2.z 25 rfl).trans hj1
      have h35b : M2 35 = .inl (1, 256, .inl fr) := (hf2.z 35 rfl).trans ((hf1.z 35 rfl).trans h35)
      refine hz_aloadn (pc := 133) 2 (hz_dec kX3_makeRoot 75 rfl) rfl ?_
      refine hz_get (pc := 134) (hz_dec kX3_makeRoot 76 rfl) fo_X3_36 hj2a (by omega) (by omega) rfl ?_
      refine hz_aloadn (pc := 137) 2 (hz_dec kX3_makeRoot 77 rfl) rfl ?_
      refine hz_get (pc := 138) (hz_dec kX3_makeRoot 78 rfl) fo_X3_22 hj2a (by omega) (by omega) rfl ?_
      refine hz_bipush (pc := 141) (v := nI 32) (hz_dec kX3_makeRoot 79 rfl) (by decide) ?_
      refine hz_iload (pc := 143) 0 (hz_dec kX3_makeRoot 80 rfl) rfl ?_
      refine hz_iconst (pc := 145) (v := nI 2) (hz_dec kX3_makeRoot 81 rfl) (by decide) ?_
      refine hz_divN (pc := 146) (hz_dec kX3_makeRoot 82 rfl) (by omega) (by decide) (by decide) ?_
      refine hz_mulN (pc := 147) (hz_dec kX3_makeRoot 83 rfl) ?_
      refine hz_callV (pc := 148) (a := 9) (As := [.ref 35, .int (nI (32 * (j / 2)))]) (st := []) (hz_dec kX3_makeRoot 84 rfl) co_X3_57 im_X8_writeTo se_X8_writeTo rfl hk2.1 (by omega) (by omega) (c_writeTo (at_ := 32 * (j / 2)) hk2.1 hv2 ⟨by decide, by omega⟩ ⟨by decide, by omega⟩ ⟨by decide, by omega⟩ (by decide) (by omega) h35b) rfl (by decide) ⟨Nat.le_refl _, Nat.le_refl _⟩ (Nat.le_of_ble_eq_true rfl) rfl (fun r9 z9 M9 hp9 => ?_)
      obtain ⟨rfl, rfl, fr2, hw1, hw2, rfl⟩ := hp9
      refine hz_goto (pc := 151) (tgt := 179) (hz_dec kX3_makeRoot 85 rfl) (by decide) ?_
      refine hz_iinc (pc := 179) (i := 4) (w := nI (j + 2)) (lo2 := [(4, .int (nI (j + 2))), (3, .int (nI l)), (0, .ref 25), (1, .ref b), (2, .int (nI m))]) 0 (hz_dec kX3_makeRoot 100 rfl) rfl (nI_add _ 2) (by decide) rfl ?_
      refine hz_goto (pc := 182) (tgt := 94) (hz_dec kX3_makeRoot 101 rfl) (by decide) ?_
      refine hz_pick (pc := 94) [0, 1, 2, 3, 4] rfl ?_
      have hfr2 : frS [(9, 20), (35, 36), (38, 39)] M0 M2 := (hfr.tr (hf1.S0 rfl)).tr (hf2.S0 rfl)
      rw [hj2] at hw1 hw2
      refine ih ((l + 1) / 2 - (q + 1)) (by omega) (q + 1) (j + 2) _ _ rfl (by omega) (by omega) (hfr2.upr (by simp only [outS, and_true]; omega)) (hk2.up (by decide)) (hs2.up (by decide)) (va_up_self _ _ _) (hz_mne (((hf2.z 38 rfl).trans (hf1.z 38 rfl)).trans h38) (by decide)) (hi.st hg (by omega) ?_ hw2)
      unfold lvl
      rw [if_pos (by omega)]
      have hA := hi.2 (2 * q) (by omega) (by omega)
      have hA2 := hi.2 (2 * q + 1) (by omega) (by omega)
      rw [← pr2_of (f := fr) (a := 32 * j) (by rw [show 32 * j = 32 * (2 * q) by omega]; exact hA) (by rw [show 32 * j + 32 = 32 * (2 * q + 1) by omega]; exact hA2) (hg _ (by omega)) (hg _ (by omega))]
      refine isA_dg (fun i hi9 => ?_)
      rw [hw1 i hi9]
      exact sh_dg_c hi9 (fun x hx => by rw [hvc2 x hx, sh_2_c hvc1])
set_option maxHeartbeats 4000000 in
set_option maxRecDepth 100000 in
theorem c_mkr_o {κ : hz_C} {z : Nat} {M0 : hz_M} {bf : Int32} {fe : Int64} (hj0 : juO M0 bf fe) (hz : 63 ≤ z) {b m : Nat} {R : by_L} {P : hz_P} (KK : ∀ M2 fr, frS [(9, 20), (35, 36), (38, 39)] M0 M2 → ck_k M2 z → ck_s M2 → M2 38 = M0 38 → M2 35 = .inl (1, 256, .inl fr) → isA fr 0 R → P none z M2) : ∀ k l g M fr, l ≤ 8 → 1 ≤ l → l ≤ k + 1 → frS [(9, 20), (35, 36), (38, 39)] M0 M → ck_k M z → ck_s M → M 35 = .inl (1, 256, .inl fr) → M 38 = M0 38 → (∀ i, i < l → (g i).length = 32) → lvI fr g l 0 → rtF k g l = R → hz_W κ xX3_makeRoot 3 0 0 P 0 0 86 [(3, .int (nI l)), (0, .ref 25), (1, .ref b), (2, .int (nI m))] [] z M := by
  intro k
  induction k with
  | zero =>
    intro l g M fr hl8 hl1 hlk hfr hk hs h35 h38 hg hi hR
    have e : l = 1 := by omega
    subst e
    refine hz_iloadn (pc := 86) 0 (hz_dec kX3_makeRoot 50 rfl) rfl ?_
    refine hz_iconst (pc := 87) (v := nI 1) (hz_dec kX3_makeRoot 51 rfl) (by decide) ?_
    refine hz_n_le (pc := 88) (tgt := 194) (hz_dec kX3_makeRoot 52 rfl) (by decide) (by omega) (by omega) (fun h1 => ?_) (fun h1 => ?_)
    · skip
      refine hz_vret (pc := 194) (hz_dec kX3_makeRoot 109 rfl) rfl (KK M fr hfr hk hs h38 h35 ?_)
      rw [← hR]
      exact hi.2 0 (by omega) (by omega)
    · skip
      exact absurd h1 (by omega)
  | succ k ih =>
    intro l g M fr hl8 hl1 hlk hfr hk hs h35 h38 hg hi hR
    refine hz_iloadn (pc := 86) 0 (hz_dec kX3_makeRoot 50 rfl) rfl ?_
    refine hz_iconst (pc := 87) (v := nI 1) (hz_dec kX3_makeRoot 51 rfl) (by decide) ?_
    refine hz_n_le (pc := 88) (tgt := 194) (hz_dec kX3_makeRoot 52 rfl) (by decide) (by omega) (by omega) (fun h1 => ?_) (fun h1 => ?_)
    · skip
      have e : l = 1 := by omega
      subst e
      refine hz_vret (pc := 194) (hz_dec kX3_makeRoot 109 rfl) rfl (KK M fr hfr hk hs h38 h35 ?_)
      rw [← hR, rtF, if_pos (by omega)]
      exact hi.2 0 (by omega) (by omega)
    · skip
      refine hz_iconst (pc := 91) (v := nI 0) (hz_dec kX3_makeRoot 53 rfl) (by decide) ?_
      refine hz_istore (pc := 92) (i := 4) (lo2 := [(4, .int (nI 0)), (3, .int (nI l)), (0, .ref 25), (1, .ref b), (2, .int (nI m))]) (hz_dec kX3_makeRoot 54 rfl) (by decide) rfl ?_
      refine hz_pick (pc := 94) [0, 1, 2, 3, 4] rfl ?_
      refine c_mkr_i hj0 hz hl8 hg (fun M2 fr2 hfr2 hk2 hs2 h35b h38b hi2 => ?_) ((l + 1) / 2) 0 0 M fr rfl (by omega) rfl hfr hk hs h35 h38 hi
      refine hz_iloadn (pc := 185) 0 (hz_dec kX3_makeRoot 102 rfl) rfl ?_
      refine hz_iconst (pc := 186) (v := nI 1) (hz_dec kX3_makeRoot 103 rfl) (by decide) ?_
      refine hz_addN (pc := 187) (hz_dec kX3_makeRoot 104 rfl) ?_
      refine hz_iconst (pc := 188) (v := nI 2) (hz_dec kX3_makeRoot 105 rfl) (by decide) ?_
      refine hz_divN (pc := 189) (hz_dec kX3_makeRoot 106 rfl) (by omega) (by decide) (by decide) ?_
      refine hz_istoren (pc := 190) (i := 3) (lo2 := [(3, .int (nI ((l + 1) / 2))), (0, .ref 25), (1, .ref b), (2, .int (nI m))]) (hz_dec kX3_makeRoot 107 rfl) rfl (by decide) rfl ?_
      refine hz_goto (pc := 191) (tgt := 86) (hz_dec kX3_makeRoot 108 rfl) (by decide) ?_
      refine hz_pick (pc := 86) [0, 1, 2, 3] rfl ?_
      refine ih _ (lvl g l) M2 fr2 (by omega) (by omega) (by omega) hfr2 hk2 hs2 h35b h38b (lvl_len hg) hi2.nx ?_
      rw [← hR, rtF, if_neg (by omega)]
