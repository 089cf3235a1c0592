/-! work: 2^256 by one more than a target -/
theorem or1_un {x : Int32} {b : Nat} (hb : b < 2) (hx : un x % 2 = 0) : un (x ||| nI b) = un x + b := by
  have hu := un_lt x
  have e : x ||| nI b = nI (un x / 2 * 2 + b) := by
    rw [← or_nI (k := 1) rfl hb, show un x / 2 * 2 = un x by omega, nI_un]
  rw [e, un_nI (by omega)]
  omega
theorem bg_or1 {f : Nat → Int32} {n b : Nat} (hb : b < 2) (h : bg f 0 (n + 1) % 2 = 0) : bg (upd f n (f n ||| nI b)) 0 (n + 1) = bg f 0 (n + 1) + b := by
  have e : bg f 0 (n + 1) = bg f 0 n * 4294967296 + un (f (0 + n)) := rfl
  rw [Nat.zero_add] at e
  rw [bg_eU (n := 0), or1_un hb (by omega), e, Nat.add_assoc]
def wkE (p : Nat) : Nat := 2 ^ p / 2
theorem wkE_st (p : Nat) : 2 * wkE p + (if p = 0 then 1 else 0) = wkE (p + 1) := by
  unfold wkE
  rcases p with _ | p
  · decide
  · rw [if_neg (by omega), Nat.pow_succ, Nat.pow_succ 2 (p + 1), Nat.pow_succ]
    omega
theorem wk_le {w D r X : Nat} (hD : 0 < D) (h : w * D + r = X) : w ≤ X := by
  have := Nat.mul_le_mul_left w (show 1 ≤ D from hD)
  omega
theorem wk_st {w D r w2 r2 b X : Nat} (hD : 0 < D) (h : w * D + r = X) (hr : r < D) (hb : b ≤ 1) (hw : w2 = 2 * w + (if D ≤ 2 * r + b then 1 else 0)) (hr2 : r2 = if D ≤ 2 * r + b then 2 * r + b - D else 2 * r + b) : w2 * D + r2 = 2 * X + b ∧ r2 < D := by
  subst hw
  subst hr2
  have e : 2 * w * D = 2 * (w * D) := Nat.mul_assoc _ _ _
  split
  · rw [Nat.add_mul, e]
    omega
  · rw [Nat.add_zero, e]
    omega
theorem wk_div {w D r X : Nat} (h : w * D + r = X) (hr : r < D) : w = X / D := by
  rw [← h, Nat.mul_comm, Nat.mul_add_div (by omega), Nat.div_eq_of_lt hr, Nat.add_zero]
set_option maxHeartbeats 4000000 in
set_option maxRecDepth 100000 in
theorem c_fw_h {κ : hz_C} {z : Nat} {M : hz_M} {B : Nat} {fs : List Value} (hO : M B = .inr (12, fs)) (hF : md_F B fs) (h8 : 8 ≤ B) (hz : B + 88 ≤ z) {d a12 a13 : Nat → Int32} (h10 : M (B + 10) = .inl (0, 9, .inl d)) (h12 : M (B + 12) = .inl (0, 9, .inl a12)) (h13 : M (B + 13) = .inl (0, 9, .inl a13)) {P : hz_P} {k : Nat} {r w : Nat → Int32} (hw : 2 * bg w 0 9 < 4294967296 ^ 9) (K : ∀ r2 w2 : Nat → Int32, bg r2 0 9 = (if bg d 0 9 ≤ bg r 0 9 then bg r 0 9 - bg d 0 9 else bg r 0 9) → bg w2 0 9 = 2 * bg w 0 9 + (if bg d 0 9 ≤ bg r 0 9 then 1 else 0) → hz_W κ xX12_findWork 2 0 0 P 0 0 146 [(2, .int (nI k)), (0, .ref B)] [] z (va_up (va_up M (B + 13) (.inl (0, 9, .inl r2))) (B + 12) (.inl (0, 9, .inl w2)))) : hz_W κ xX12_findWork 2 0 0 P 0 0 94 [(2, .int (nI k)), (0, .ref B)] [] z (va_up (va_up M (B + 13) (.inl (0, 9, .inl r))) (B + 12) (.inl (0, 9, .inl w))) := by
  refine hz_aloadn (pc := 94) 1 (hz_dec kX12_findWork 47 rfl) rfl ?_
  refine hz_get (pc := 95) (v := .ref (B + 12)) (hz_dec kX12_findWork 48 rfl) fo_X12_45 (hz_mne (hz_mne hO (by omega)) (by omega)) h8 (by omega) (hF.2 13 (by decide) (by decide)) ?_
  refine hz_aloadn (pc := 98) 1 (hz_dec kX12_findWork 49 rfl) rfl ?_
  refine hz_get (pc := 99) (v := .ref (B + 12)) (hz_dec kX12_findWork 50 rfl) fo_X12_45 (hz_mne (hz_mne hO (by omega)) (by omega)) h8 (by omega) (hF.2 13 (by decide) (by decide)) ?_
  refine hz_callS (pc := 102) (As := [.ref (B + 12), .ref (B + 12)]) (st := []) (hz_dec kX12_findWork 51 rfl) co_X12_380 sc_X12_addBig (c_addS (va_up_self _ _ _) (by omega) (by omega)) rfl (by decide) ⟨Nat.le_refl _, Nat.le_refl _⟩ (Nat.le_of_ble_eq_true rfl) rfl (fun r9 z9 M9 hp9 => ?_)
  obtain ⟨rfl, rfl, w1, hw1, rfl⟩ := hp9
  refine hz_mem (pc := 105) (M2 := (va_up (va_up M (B + 13) (.inl (0, 9, .inl (r)))) (B + 12) (.inl (0, 9, .inl (w1))))) (bx_uu _ _ _ _) ?_
  rw [Nat.mod_eq_of_lt (by omega)] at hw1
  refine hz_aloadn (pc := 105) 1 (hz_dec kX12_findWork 52 rfl) rfl ?_
  refine hz_get (pc := 106) (v := .ref (B + 13)) (hz_dec kX12_findWork 53 rfl) fo_X12_48 (hz_mne (hz_mne hO (by omega)) (by omega)) h8 (by omega) (hF.2 14 (by decide) (by decide)) ?_
  refine hz_aloadn (pc := 109) 1 (hz_dec kX12_findWork 54 rfl) rfl ?_
  refine hz_get (pc := 110) (v := .ref (B + 10)) (hz_dec kX12_findWork 55 rfl) fo_X12_39 (hz_mne (hz_mne hO (by omega)) (by omega)) h8 (by omega) (hF.2 11 (by decide) (by decide)) ?_
  refine hz_xS (pc := 113) (As := [.ref (B + 13), .ref (B + 10)]) (st := []) (hz_dec kX12_findWork 56 rfl) co_X12_372 sc_X12_compareBig (c_cmpB (hz_mne (va_up_self _ _ _) (by omega)) (by omega) (by omega) (by decide) (hz_mne (hz_mne h10 (by omega)) (by omega)) (by omega) (by omega) (by decide) (by decide) (by decide)) rfl (by decide) ⟨Nat.le_refl _, Nat.le_refl _⟩ (Nat.le_of_ble_eq_true rfl) rfl ?_
  refine hz_if_lt (pc := 116) (tgt := 146) (hz_dec kX12_findWork 57 rfl) (by decide) (fun h1 => ?_) (fun h1 => ?_)
  · skip
    have hl : ¬ bg d 0 9 ≤ bg r 0 9 := fun q => Int32.not_lt.mpr (cmpN_ge.mpr q) h1
    refine hz_pick (pc := 146) [0, 1] rfl ?_
    exact K r w1 (by rw [if_neg hl]) (by rw [if_neg hl, hw1]; omega)
  · skip
    have hl : bg d 0 9 ≤ bg r 0 9 := cmpN_ge.mp (Int32.not_lt.mp h1)
    refine hz_aloadn (pc := 119) 1 (hz_dec kX12_findWork 58 rfl) rfl ?_
    refine hz_get (pc := 120) (v := .ref (B + 13)) (hz_dec kX12_findWork 59 rfl) fo_X12_48 (hz_mne (hz_mne hO (by omega)) (by omega)) h8 (by omega) (hF.2 14 (by decide) (by decide)) ?_
    refine hz_aloadn (pc := 123) 1 (hz_dec kX12_findWork 60 rfl) rfl ?_
    refine hz_get (pc := 124) (v := .ref (B + 10)) (hz_dec kX12_findWork 61 rfl) fo_X12_39 (hz_mne (hz_mne hO (by omega)) (by omega)) h8 (by omega) (hF.2 11 (by decide) (by decide)) ?_
    refine hz_callS (pc := 127) (As := [.ref (B + 13), .ref (B + 10)]) (st := []) (hz_dec kX12_findWork 62 rfl) co_X12_384 sc_X12_takeBig (c_takeB (hz_mne (va_up_self _ _ _) (by omega)) (by omega) (by omega) (hz_mne (hz_mne h10 (by omega)) (by omega)) (by omega) (by omega) (by omega) hl) rfl (by decide) ⟨Nat.le_refl _, Nat.le_refl _⟩ (Nat.le_of_ble_eq_true rfl) rfl (fun r9 z9 M9 hp9 => ?_)
    obtain ⟨rfl, rfl, r2, hr2, rfl⟩ := hp9
    refine hz_mem (pc := 130) (M2 := (va_up (va_up M (B + 13) (.inl (0, 9, .inl (r2)))) (B + 12) (.inl (0, 9, .inl (w1))))) (hz_upc (by omega)) ?_
    refine hz_aloadn (pc := 130) 1 (hz_dec kX12_findWork 63 rfl) rfl ?_
    refine hz_get (pc := 131) (v := .ref (B + 12)) (hz_dec kX12_findWork 64 rfl) fo_X12_45 (hz_mne (hz_mne hO (by omega)) (by omega)) h8 (by omega) (hF.2 13 (by decide) (by decide)) ?_
    refine hz_bipush (pc := 134) (v := nI 8) (hz_dec kX12_findWork 65 rfl) (by decide) ?_
    refine hz_aloadn (pc := 136) 1 (hz_dec kX12_findWork 66 rfl) rfl ?_
    refine hz_get (pc := 137) (v := .ref (B + 12)) (hz_dec kX12_findWork 67 rfl) fo_X12_45 (hz_mne (hz_mne hO (by omega)) (by omega)) h8 (by omega) (hF.2 13 (by decide) (by decide)) ?_
    refine hz_bipush (pc := 140) (v := nI 8) (hz_dec kX12_findWork 68 rfl) (by decide) ?_
    refine hz_iald (pc := 142) (j := 8) (hz_dec kX12_findWork 69 rfl) (va_up_self _ _ _) (by omega) (by omega) rfl (by omega) (by decide) ?_
    refine hz_iconst (pc := 143) (v := nI 1) (hz_dec kX12_findWork 70 rfl) (by decide) ?_
    refine hz_ior (pc := 144) (hz_dec kX12_findWork 71 rfl) ?_
    refine hz_iast (pc := 145) (j := 8) (hz_dec kX12_findWork 72 rfl) (va_up_self _ _ _) (by omega) (by omega) rfl (by omega) (by decide) ?_
    refine hz_mem (pc := 146) (M2 := (va_up (va_up M (B + 13) (.inl (0, 9, .inl (r2)))) (B + 12) (.inl (0, 9, .inl (upd w1 8 (((w1 8) ||| (nI (1))))))))) (bx_uu _ _ _ _) ?_
    refine hz_pick (pc := 146) [0, 1] rfl ?_
    refine K r2 _ (by rw [if_pos hl]; exact hr2) ?_
    rw [if_pos hl, bg_or1 (n := 8) (by decide) (by rw [hw1]; omega), hw1]
    omega
set_option maxHeartbeats 4000000 in
set_option maxRecDepth 100000 in
theorem c_fw_l {κ : hz_C} {z : Nat} {M : hz_M} {B : Nat} {fs : List Value} (hO : M B = .inr (12, fs)) (hF : md_F B fs) (h8 : 8 ≤ B) (hz : B + 88 ≤ z) {d a12 a13 : Nat → Int32} (h10 : M (B + 10) = .inl (0, 9, .inl d)) (h12 : M (B + 12) = .inl (0, 9, .inl a12)) (h13 : M (B + 13) = .inl (0, 9, .inl a13)) (hD : 0 < bg d 0 9) (hDl : bg d 0 9 ≤ 2 ^ 253) {P : hz_P} (K : ∀ r w : Nat → Int32, bg w 0 9 = 2 ^ 256 / bg d 0 9 → P none z (va_up (va_up M (B + 13) (.inl (0, 9, .inl r))) (B + 12) (.inl (0, 9, .inl w)))) : ∀ (k : Nat) (r w : Nat → Int32) (ix : Int32), ix = nI k - 1 → k ≤ 257 → bg w 0 9 * bg d 0 9 + bg r 0 9 = wkE (257 - k) → bg r 0 9 < bg d 0 9 → hz_W κ xX12_findWork 2 0 0 P 0 0 52 [(2, .int ix), (0, .ref B)] [] z (va_up (va_up M (B + 13) (.inl (0, 9, .inl r))) (B + 12) (.inl (0, 9, .inl w))) := by
  intro k
  induction k with
  | zero =>
    intro r w ix hx hk hv hr
    refine hz_iloadn (pc := 52) 0 (hz_dec kX12_findWork 25 rfl) rfl ?_
    refine hz_if_lt (pc := 53) (tgt := 152) (hz_dec kX12_findWork 26 rfl) (by decide) (fun h1 => ?_) (fun h1 => ?_)
    · skip
      exact hz_vret (pc := 152) (hz_dec kX12_findWork 75 rfl) rfl (K r w (by rw [wk_div hv hr]; rfl))
    · skip
      exact absurd (by rw [hx]; decide) h1
  | succ k ih =>
    intro r w ix hx hk hv hr
    rw [nI_pred] at hx
    refine hz_iloadn (pc := 52) 0 (hz_dec kX12_findWork 25 rfl) rfl ?_
    refine hz_if_lt (pc := 53) (tgt := 152) (hz_dec kX12_findWork 26 rfl) (by decide) (fun h1 => ?_) (fun h1 => ?_)
    · skip
      exact absurd h1 (by rw [hx]; exact nI_pos (by omega))
    · skip
      subst hx
      have hwl := wk_le hD hv
      have hE : wkE (257 - (k + 1)) ≤ 2 ^ 256 := Nat.le_trans (Nat.div_le_self _ _) (Nat.pow_le_pow_right (by decide) (by omega))
      have hst := wkE_st (257 - (k + 1))
      rw [show 257 - (k + 1) + 1 = 257 - k by omega] at hst
      have hW : (2 : Nat) ^ 256 + 2 ^ 256 < 4294967296 ^ 9 := by decide +kernel
      have hW2 : (2 : Nat) ^ 253 + 2 ^ 253 < 4294967296 ^ 9 := by decide +kernel
      refine hz_aloadn (pc := 56) 1 (hz_dec kX12_findWork 27 rfl) rfl ?_
      refine hz_get (pc := 57) (v := .ref (B + 13)) (hz_dec kX12_findWork 28 rfl) fo_X12_48 (hz_mne (hz_mne hO (by omega)) (by omega)) h8 (by omega) (hF.2 14 (by decide) (by decide)) ?_
      refine hz_aloadn (pc := 60) 1 (hz_dec kX12_findWork 29 rfl) rfl ?_
      refine hz_get (pc := 61) (v := .ref (B + 13)) (hz_dec kX12_findWork 30 rfl) fo_X12_48 (hz_mne (hz_mne hO (by omega)) (by omega)) h8 (by omega) (hF.2 14 (by decide) (by decide)) ?_
      refine hz_callS (pc := 64) (As := [.ref (B + 13), .ref (B + 13)]) (st := []) (hz_dec kX12_findWork 31 rfl) co_X12_380 sc_X12_addBig (c_addS (hz_mne (va_up_self _ _ _) (by omega)) (by omega) (by omega)) rfl (by decide) ⟨Nat.le_refl _, Nat.le_refl _⟩ (Nat.le_of_ble_eq_true rfl) rfl (fun r9 z9 M9 hp9 => ?_)
      obtain ⟨rfl, rfl, r1, hr1, rfl⟩ := hp9
      refine hz_mem (pc := 67) (M2 := (va_up (va_up M (B + 13) (.inl (0, 9, .inl (r1)))) (B + 12) (.inl (0, 9, .inl (w))))) (hz_upc (by omega)) ?_
      rw [Nat.mod_eq_of_lt (by generalize (4294967296 : Nat) ^ 9 = W9 at *; generalize (2 : Nat) ^ 253 = W3 at *; omega)] at hr1
      refine hz_aloadn (pc := 67) 1 (hz_dec kX12_findWork 32 rfl) rfl ?_
      refine hz_get (pc := 68) (v := .ref (B + 13)) (hz_dec kX12_findWork 33 rfl) fo_X12_48 (hz_mne (hz_mne hO (by omega)) (by omega)) h8 (by omega) (hF.2 14 (by decide) (by decide)) ?_
      refine hz_bipush (pc := 71) (v := nI 8) (hz_dec kX12_findWork 34 rfl) (by decide) ?_
      refine hz_aloadn (pc := 73) 1 (hz_dec kX12_findWork 35 rfl) rfl ?_
      refine hz_get (pc := 74) (v := .ref (B + 13)) (hz_dec kX12_findWork 36 rfl) fo_X12_48 (hz_mne (hz_mne hO (by omega)) (by omega)) h8 (by omega) (hF.2 14 (by decide) (by decide)) ?_
      refine hz_bipush (pc := 77) (v := nI 8) (hz_dec kX12_findWork 37 rfl) (by decide) ?_
      refine hz_iald (pc := 79) (j := 8) (hz_dec kX12_findWork 38 rfl) (hz_mne (va_up_self _ _ _) (by omega)) (by omega) (by omega) rfl (by omega) (by decide) ?_
      refine hz_iloadn (pc := 80) 0 (hz_dec kX12_findWork 39 rfl) rfl ?_
      refine hz_sipush (pc := 81) (v := nI 256) (hz_dec kX12_findWork 40 rfl) (by decide) ?_
      refine hz_n_ne (pc := 84) (tgt := 91) (hz_dec kX12_findWork 41 rfl) (by decide) (by omega) (by omega) (fun h2 => ?_) (fun h2 => ?_)
      · skip
        refine hz_iconst (pc := 91) (v := nI 0) (hz_dec kX12_findWork 44 rfl) (by decide) ?_
        refine hz_ior (pc := 92) (hz_dec kX12_findWork 45 rfl) ?_
        refine hz_iast (pc := 93) (j := 8) (hz_dec kX12_findWork 46 rfl) (hz_mne (va_up_self _ _ _) (by omega)) (by omega) (by omega) rfl (by omega) (by decide) ?_
        refine hz_mem (pc := 94) (M2 := (va_up (va_up M (B + 13) (.inl (0, 9, .inl (upd r1 8 (((r1 8) ||| (nI (0)))))))) (B + 12) (.inl (0, 9, .inl (w))))) (hz_upc (by omega)) ?_
        refine hz_pick (pc := 94) [0, 1] rfl ?_
        have ho := bg_or1 (f := r1) (n := 8) (b := 0) (by decide) (by rw [hr1]; omega)
        rw [hr1] at ho
        refine c_fw_h hO hF h8 hz h10 h12 h13 (by generalize (4294967296 : Nat) ^ 9 = W9 at *; generalize (2 : Nat) ^ 256 = W3 at *; omega) (fun r2 w2 hr2 hw2 => ?_)
        rw [ho] at hr2 hw2
        have fin := wk_st (b := 0) (w2 := bg w2 0 9) (r2 := bg r2 0 9) hD hv hr (by decide) (by rw [hw2, show bg r 0 9 + bg r 0 9 = 2 * bg r 0 9 by omega]) (by rw [hr2, show bg r 0 9 + bg r 0 9 = 2 * bg r 0 9 by omega])
        refine hz_iinc (pc := 146) (i := 2) (w := nI k - 1) (lo2 := [(2, .int (nI k - 1)), (0, .ref B)]) 0 (hz_dec kX12_findWork 73 rfl) rfl (hz_m1 k) (by decide) rfl ?_
        refine hz_goto (pc := 149) (tgt := 52) (hz_dec kX12_findWork 74 rfl) (by decide) ?_
        refine hz_pick (pc := 52) [0, 1] rfl ?_
        refine ih r2 w2 _ rfl (by omega) ?_ fin.2
        rw [fin.1, ← hst, if_neg (by omega)]
      · skip
        refine hz_iconst (pc := 87) (v := nI 1) (hz_dec kX12_findWork 42 rfl) (by decide) ?_
        refine hz_goto (pc := 88) (tgt := 92) (hz_dec kX12_findWork 43 rfl) (by decide) ?_
        refine hz_ior (pc := 92) (hz_dec kX12_findWork 45 rfl) ?_
        refine hz_iast (pc := 93) (j := 8) (hz_dec kX12_findWork 46 rfl) (hz_mne (va_up_self _ _ _) (by omega)) (by omega) (by omega) rfl (by omega) (by decide) ?_
        refine hz_mem (pc := 94) (M2 := (va_up (va_up M (B + 13) (.inl (0, 9, .inl (upd r1 8 (((r1 8) ||| (nI (1)))))))) (B + 12) (.inl (0, 9, .inl (w))))) (hz_upc (by omega)) ?_
        refine hz_pick (pc := 94) [0, 1] rfl ?_
        have ho := bg_or1 (f := r1) (n := 8) (b := 1) (by decide) (by rw [hr1]; omega)
        rw [hr1] at ho
        refine c_fw_h hO hF h8 hz h10 h12 h13 (by generalize (4294967296 : Nat) ^ 9 = W9 at *; generalize (2 : Nat) ^ 256 = W3 at *; omega) (fun r2 w2 hr2 hw2 => ?_)
        rw [ho] at hr2 hw2
        have fin := wk_st (b := 1) (w2 := bg w2 0 9) (r2 := bg r2 0 9) hD hv hr (by decide) (by rw [hw2, show bg r 0 9 + bg r 0 9 = 2 * bg r 0 9 by omega]) (by rw [hr2, show bg r 0 9 + bg r 0 9 = 2 * bg r 0 9 by omega])
        refine hz_iinc (pc := 146) (i := 2) (w := nI k - 1) (lo2 := [(2, .int (nI k - 1)), (0, .ref B)]) 0 (hz_dec kX12_findWork 73 rfl) rfl (hz_m1 k) (by decide) rfl ?_
        refine hz_goto (pc := 149) (tgt := 52) (hz_dec kX12_findWork 74 rfl) (by decide) ?_
        refine hz_pick (pc := 52) [0, 1] rfl ?_
        refine ih r2 w2 _ rfl (by omega) ?_ fin.2
        rw [fin.1, ← hst, if_pos (by omega)]
set_option maxHeartbeats 4000000 in
set_option maxRecDepth 100000 in
theorem c_findWork {κ : hz_C} {z : Nat} {M : hz_M} {B : Nat} {fs : List Value} (hO : M B = .inr (12, fs)) (hF : md_F B fs) (h8 : 8 ≤ B) (hz : B + 88 ≤ z) (ht : md_t B M) {t : Int32} (he : 3 ≤ tgE t) (he2 : tgE t ≤ 32) (hT : tgT t ≤ tgT 537919487) : hz_Mt κ xX12_findWork 2 0 0 [.ref B, .int t] z M (md_tF M z B [10, 11, 12, 13] none (fun M2 => ∃ w : Nat → Int32, M2 (B + 12) = .inl (0, 9, .inl w) ∧ bg w 0 9 = 2 ^ 256 / (tgT t + 1))) := by
  refine hz_ent (lo := [(0, .ref B), (1, .int t)]) (by decide) (Nat.le_of_ble_eq_true rfl) rfl ?_
  obtain ⟨⟨a10, h10⟩, ⟨a11, h11⟩, ⟨a12, h12⟩, ⟨a13, h13⟩⟩ := id ht
  refine hz_iloadn (pc := 0) 1 (hz_dec kX12_findWork 0 rfl) rfl ?_
  refine hz_aloadn (pc := 1) 0 (hz_dec kX12_findWork 1 rfl) rfl ?_
  refine hz_get (pc := 2) (v := .ref (B + 10)) (hz_dec kX12_findWork 2 rfl) fo_X12_39 hO h8 (by omega) (hF.2 11 (by decide) (by decide)) ?_
  refine hz_callS (pc := 5) (As := [.int t, .ref (B + 10)]) (st := []) (hz_dec kX12_findWork 3 rfl) co_X12_367 sc_X12_layTarget (c_layT h10 (by omega) (by omega) (t := t) he (by omega)) rfl (by decide) ⟨Nat.le_refl _, Nat.le_refl _⟩ (Nat.le_of_ble_eq_true rfl) rfl (fun r9 z9 M9 hp9 => ?_)
  obtain ⟨rfl, rfl, f1, hf1, rfl⟩ := hp9
  refine hz_aloadn (pc := 8) 0 (hz_dec kX12_findWork 4 rfl) rfl ?_
  refine hz_get (pc := 9) (v := .ref (B + 11)) (hz_dec kX12_findWork 5 rfl) fo_X12_42 (hz_mne hO (by omega)) h8 (by omega) (hF.2 12 (by decide) (by decide)) ?_
  refine hz_callS (pc := 12) (As := [.ref (B + 11)]) (st := []) (hz_dec kX12_findWork 6 rfl) co_X12_360 sc_X12_clearBig (c_clear (hz_mne h11 (by omega)) (by omega) (by omega)) rfl (by decide) ⟨Nat.le_refl _, Nat.le_refl _⟩ (Nat.le_of_ble_eq_true rfl) rfl (fun r9 z9 M9 hp9 => ?_)
  obtain ⟨rfl, rfl, f2, hf2, rfl⟩ := hp9
  refine hz_aloadn (pc := 15) 0 (hz_dec kX12_findWork 7 rfl) rfl ?_
  refine hz_get (pc := 16) (v := .ref (B + 11)) (hz_dec kX12_findWork 8 rfl) fo_X12_42 (hz_mne (hz_mne hO (by omega)) (by omega)) h8 (by omega) (hF.2 12 (by decide) (by decide)) ?_
  refine hz_bipush (pc := 19) (v := nI 8) (hz_dec kX12_findWork 9 rfl) (by decide) ?_
  refine hz_iconst (pc := 21) (v := nI 1) (hz_dec kX12_findWork 10 rfl) (by decide) ?_
  refine hz_iast (pc := 22) (j := 8) (hz_dec kX12_findWork 11 rfl) (va_up_self _ _ _) (by omega) (by omega) rfl (by omega) (by decide) ?_
  refine hz_mem (pc := 23) (M2 := (va_up (va_up M (B + 10) (.inl (0, 9, .inl (f1)))) (B + 11) (.inl (0, 9, .inl (upd f2 8 ((nI (1)))))))) (bx_uu _ _ _ _) ?_
  have hone : bg (upd f2 8 (nI 1)) 0 9 = 1 := by
    have q := bg_set (f := f2) (a := 0) (x := nI 1) 9 8 (by decide)
    have q2 : bg f2 0 9 = bg f2 0 8 * 4294967296 + un (f2 (0 + 8)) := rfl
    have q3 : un (nI 1) = 1 := rfl
    rw [show 9 - 1 - 8 = 0 from rfl, q3] at q
    simp only [Nat.zero_add, Nat.pow_zero, Nat.mul_one] at q q2
    omega
  refine hz_aloadn (pc := 23) 0 (hz_dec kX12_findWork 12 rfl) rfl ?_
  refine hz_get (pc := 24) (v := .ref (B + 10)) (hz_dec kX12_findWork 13 rfl) fo_X12_39 (hz_mne (hz_mne hO (by omega)) (by omega)) h8 (by omega) (hF.2 11 (by decide) (by decide)) ?_
  refine hz_aloadn (pc := 27) 0 (hz_dec kX12_findWork 14 rfl) rfl ?_
  refine hz_get (pc := 28) (v := .ref (B + 11)) (hz_dec kX12_findWork 15 rfl) fo_X12_42 (hz_mne (hz_mne hO (by omega)) (by omega)) h8 (by omega) (hF.2 12 (by decide) (by decide)) ?_
  refine hz_callS (pc := 31) (As := [.ref (B + 10), .ref (B + 11)]) (st := []) (hz_dec kX12_findWork 16 rfl) co_X12_380 sc_X12_addBig (c_addB (hz_mne (va_up_self _ _ _) (by omega)) (by omega) (by omega) (va_up_self _ _ _) (by omega) (by omega) (by omega)) rfl (by decide) ⟨Nat.le_refl _, Nat.le_refl _⟩ (Nat.le_of_ble_eq_true rfl) rfl (fun r9 z9 M9 hp9 => ?_)
  obtain ⟨rfl, rfl, f3, hf3, rfl⟩ := hp9
  refine hz_mem (pc := 34) (M2 := (va_up (va_up M (B + 10) (.inl (0, 9, .inl (f3)))) (B + 11) (.inl (0, 9, .inl (upd f2 8 ((nI (1)))))))) (hz_upc (by omega)) ?_
  have hEW : tgT 537919487 + 1 < 4294967296 ^ 9 := by decide +kernel
  have hE3 : tgT 537919487 + 1 ≤ 2 ^ 253 := by decide +kernel
  rw [hf1, hone, Nat.mod_eq_of_lt (by generalize (4294967296 : Nat) ^ 9 = W9 at *; omega)] at hf3
  refine hz_aloadn (pc := 34) 0 (hz_dec kX12_findWork 17 rfl) rfl ?_
  refine hz_get (pc := 35) (v := .ref (B + 13)) (hz_dec kX12_findWork 18 rfl) fo_X12_48 (hz_mne (hz_mne hO (by omega)) (by omega)) h8 (by omega) (hF.2 14 (by decide) (by decide)) ?_
  refine hz_callS (pc := 38) (As := [.ref (B + 13)]) (st := []) (hz_dec kX12_findWork 19 rfl) co_X12_360 sc_X12_clearBig (c_clear (hz_mne (hz_mne h13 (by omega)) (by omega)) (by omega) (by omega)) rfl (by decide) ⟨Nat.le_refl _, Nat.le_refl _⟩ (Nat.le_of_ble_eq_true rfl) rfl (fun r9 z9 M9 hp9 => ?_)
  obtain ⟨rfl, rfl, f4, hf4, rfl⟩ := hp9
  refine hz_aloadn (pc := 41) 0 (hz_dec kX12_findWork 20 rfl) rfl ?_
  refine hz_get (pc := 42) (v := .ref (B + 12)) (hz_dec kX12_findWork 21 rfl) fo_X12_45 (hz_mne (hz_mne (hz_mne hO (by omega)) (by omega)) (by omega)) h8 (by omega) (hF.2 13 (by decide) (by decide)) ?_
  refine hz_callS (pc := 45) (As := [.ref (B + 12)]) (st := []) (hz_dec kX12_findWork 22 rfl) co_X12_360 sc_X12_clearBig (c_clear (hz_mne (hz_mne (hz_mne h12 (by omega)) (by omega)) (by omega)) (by omega) (by omega)) rfl (by decide) ⟨Nat.le_refl _, Nat.le_refl _⟩ (Nat.le_of_ble_eq_true rfl) rfl (fun r9 z9 M9 hp9 => ?_)
  obtain ⟨rfl, rfl, f5, hf5, rfl⟩ := hp9
  refine hz_sipush (pc := 48) (v := nI 256) (hz_dec kX12_findWork 23 rfl) (by decide) ?_
  refine hz_istoren (pc := 51) (i := 2) (lo2 := [(2, .int (nI 256)), (0, .ref B), (1, .int t)]) (hz_dec kX12_findWork 24 rfl) rfl (by decide) rfl ?_
  refine hz_pick (pc := 52) [0, 1] rfl ?_
  refine c_fw_l (M := (va_up (va_up M (B + 10) (.inl (0, 9, .inl f3))) (B + 11) (.inl (0, 9, .inl (upd f2 8 (nI 1)))))) (hz_mne (hz_mne hO (by omega)) (by omega)) hF h8 hz (hz_mne (va_up_self _ _ _) (by omega)) (hz_mne (hz_mne h12 (by omega)) (by omega)) (hz_mne (hz_mne h13 (by omega)) (by omega)) (by omega) (by rw [hf3]; generalize (2 : Nat) ^ 253 = W3 at *; omega) (fun r w hw => ?_) 257 f4 f5 _ (by decide) (by omega) (by rw [hf4, hf5]; simp [wkE]) (by omega)
  refine ⟨rfl, rfl, ?_, ⟨⟨f3, hz_mne (hz_mne (hz_mne (va_up_self _ _ _) (by omega)) (by omega)) (by omega)⟩, ⟨_, hz_mne (hz_mne (va_up_self _ _ _) (by omega)) (by omega)⟩, ⟨w, va_up_self _ _ _⟩, ⟨r, hz_mne (va_up_self _ _ _) (by omega)⟩⟩, w, va_up_self _ _ _, by rw [hw, hf3]⟩
  exact (((frl.up (os := [10, 11, 12, 13]) rfl).tr (os3 := [10, 11, 12, 13]) (frl.up (os := [10, 11, 12, 13]) rfl) rfl rfl).tr (os3 := [10, 11, 12, 13]) (frl.up (os := [10, 11, 12, 13]) rfl) rfl rfl).tr (frl.up (os := [10, 11, 12, 13]) rfl) rfl rfl
