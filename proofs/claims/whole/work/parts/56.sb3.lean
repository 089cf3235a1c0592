/-! the reference: is it the digest; the class: a reward -/
theorem smB_sm {f g : Nat → Int32} {a b n : Nat} : bn_sm f a g b n = smB f g a b n := by
  rw [Bool.eq_iff_iff, bn_sm_iff]
  unfold smB
  rw [decide_eq_true_eq]
set_option maxHeartbeats 4000000 in
set_option maxRecDepth 100000 in
theorem c_iD_0 {κ : hz_C} {z : Nat} {M : hz_M} {B : Nat} {fs : List Value} (hO : M B = .inr (12, fs)) (hF : md_F B fs) (h8 : 8 ≤ B) (hz : B + 88 ≤ z) {d : Nat → Int32} (hd : M (B + 5) = .inl (1, 32, .inl d)) {r nb at_ : Nat} {g : Nat → Int32} (hR : M r = .inl (1, nb, .inl g)) (hr8 : 8 ≤ r) (hrz : r < z) (hnb : nb < 2 ^ 30) (hrr : at_ + 32 ≤ nb) {i q : Nat} (hi : i ≤ 32) (hq : q < 32) (hne : ¬ d (0 + q) = g (at_ + q)) : hz_W κ xX12_isDigest 0 0 0 (hz_ex (some (.int (hz_b (smB d g 0 at_ 32)))) z M) 0 0 5 [(4, .int (nI i)), (3, .int (nI 0)), (0, .ref B), (1, .ref r), (2, .int (nI at_))] [] z M := by
  refine hz_iload (pc := 5) 0 (hz_dec kX12_isDigest 4 rfl) rfl ?_
  refine hz_bipush (pc := 7) (v := nI 32) (hz_dec kX12_isDigest 5 rfl) (by decide) ?_
  refine hz_n_ge (pc := 9) (tgt := 44) (hz_dec kX12_isDigest 6 rfl) (by decide) (by omega) (by omega) (fun h1 => ?_) (fun h1 => ?_)
  · skip
    refine hz_iloadn (pc := 44) 1 (hz_dec kX12_isDigest 25 rfl) rfl ?_
    exact hz_zret (pc := 45) (hz_dec kX12_isDigest 26 rfl) rfl rfl ⟨by rw [smB_f hq hne], rfl, rfl⟩
  · skip
    refine hz_iloadn (pc := 12) 1 (hz_dec kX12_isDigest 7 rfl) rfl ?_
    refine hz_z_eq (pc := 13) (tgt := 44) (hz_dec kX12_isDigest 8 rfl) (by decide) (by omega) (fun h2 => ?_) (fun h2 => ?_)
    · skip
      refine hz_iloadn (pc := 44) 1 (hz_dec kX12_isDigest 25 rfl) rfl ?_
      exact hz_zret (pc := 45) (hz_dec kX12_isDigest 26 rfl) rfl rfl ⟨by rw [smB_f hq hne], rfl, rfl⟩
    · skip
      exact absurd h2 (by omega)
set_option maxHeartbeats 4000000 in
set_option maxRecDepth 100000 in
theorem c_iD_l {κ : hz_C} {z : Nat} {M : hz_M} {B : Nat} {fs : List Value} (hO : M B = .inr (12, fs)) (hF : md_F B fs) (h8 : 8 ≤ B) (hz : B + 88 ≤ z) {d : Nat → Int32} (hd : M (B + 5) = .inl (1, 32, .inl d)) {r nb at_ : Nat} {g : Nat → Int32} (hR : M r = .inl (1, nb, .inl g)) (hr8 : 8 ≤ r) (hrz : r < z) (hnb : nb < 2 ^ 30) (hrr : at_ + 32 ≤ nb) : ∀ k i, k = 32 - i → i ≤ 32 → (∀ j, j < i → d (0 + j) = g (at_ + j)) → hz_W κ xX12_isDigest 0 0 0 (hz_ex (some (.int (hz_b (smB d g 0 at_ 32)))) z M) 0 0 5 [(4, .int (nI i)), (3, .int (nI 1)), (0, .ref B), (1, .ref r), (2, .int (nI at_))] [] z M := by
  intro k
  induction k using Nat.strongRecOn with
  | ind k ih =>
  intro i hk hi hs
  refine hz_iload (pc := 5) 0 (hz_dec kX12_isDigest 4 rfl) rfl ?_
  refine hz_bipush (pc := 7) (v := nI 32) (hz_dec kX12_isDigest 5 rfl) (by decide) ?_
  refine hz_n_ge (pc := 9) (tgt := 44) (hz_dec kX12_isDigest 6 rfl) (by decide) (by omega) (by omega) (fun h1 => ?_) (fun h1 => ?_)
  · skip
    have e : i = 32 := by omega
    subst e
    refine hz_iloadn (pc := 44) 1 (hz_dec kX12_isDigest 25 rfl) rfl ?_
    exact hz_zret (pc := 45) (hz_dec kX12_isDigest 26 rfl) rfl rfl ⟨by rw [smB_t hs], rfl, rfl⟩
  · skip
    refine hz_iloadn (pc := 12) 1 (hz_dec kX12_isDigest 7 rfl) rfl ?_
    refine hz_z_eq (pc := 13) (tgt := 44) (hz_dec kX12_isDigest 8 rfl) (by decide) (by omega) (fun h2 => ?_) (fun h2 => ?_)
    · skip
      exact absurd h2 (by decide)
    · skip
      refine hz_aloadn (pc := 16) 2 (hz_dec kX12_isDigest 9 rfl) rfl ?_
      refine hz_get (pc := 17) (v := .ref (B + 5)) (hz_dec kX12_isDigest 10 rfl) fo_X12_22 hO h8 (by omega) (hF.2 6 (by decide) (by decide)) ?_
      refine hz_iload (pc := 20) 0 (hz_dec kX12_isDigest 11 rfl) rfl ?_
      refine hz_bald (pc := 22) (j := i) (hz_dec kX12_isDigest 12 rfl) hd (by omega) (by omega) rfl (by omega) (by decide) ?_
      refine hz_aloadn (pc := 23) 3 (hz_dec kX12_isDigest 13 rfl) rfl ?_
      refine hz_iloadn (pc := 24) 4 (hz_dec kX12_isDigest 14 rfl) rfl ?_
      refine hz_iload (pc := 25) 0 (hz_dec kX12_isDigest 15 rfl) rfl ?_
      refine hz_addN (pc := 27) (hz_dec kX12_isDigest 16 rfl) ?_
      refine hz_bald (pc := 28) (j := at_ + i) (hz_dec kX12_isDigest 17 rfl) hR hr8 hrz rfl (by omega) (by omega) ?_
      refine hz_icmp_ne (pc := 29) (tgt := 36) (hz_dec kX12_isDigest 18 rfl) (by decide) (fun h3 => ?_) (fun h3 => ?_)
      · skip
        refine hz_iconst (pc := 36) (v := nI 0) (hz_dec kX12_isDigest 21 rfl) (by decide) ?_
        refine hz_istoren (pc := 37) (i := 3) (lo2 := [(3, .int (nI 0)), (4, .int (nI i)), (0, .ref B), (1, .ref r), (2, .int (nI at_))]) (hz_dec kX12_isDigest 22 rfl) rfl (by decide) rfl ?_
        refine hz_incN (pc := 38) (i := 4) (lo2 := [(4, .int (nI (i + 1))), (3, .int (nI 0)), (0, .ref B), (1, .ref r), (2, .int (nI at_))]) 1 (hz_dec kX12_isDigest 23 rfl) rfl (by decide) rfl ?_
        refine hz_goto (pc := 41) (tgt := 5) (hz_dec kX12_isDigest 24 rfl) (by decide) ?_
        refine hz_pick (pc := 5) [0, 1, 2, 3, 4] rfl ?_
        exact c_iD_0 hO hF h8 hz hd hR hr8 hrz hnb hrr (by omega) h1 (by rw [Nat.zero_add]; exact h3)
      · skip
        refine hz_iconst (pc := 32) (v := nI 1) (hz_dec kX12_isDigest 19 rfl) (by decide) ?_
        refine hz_goto (pc := 33) (tgt := 37) (hz_dec kX12_isDigest 20 rfl) (by decide) ?_
        refine hz_istoren (pc := 37) (i := 3) (lo2 := [(3, .int (nI 1)), (4, .int (nI i)), (0, .ref B), (1, .ref r), (2, .int (nI at_))]) (hz_dec kX12_isDigest 22 rfl) rfl (by decide) rfl ?_
        refine hz_incN (pc := 38) (i := 4) (lo2 := [(4, .int (nI (i + 1))), (3, .int (nI 1)), (0, .ref B), (1, .ref r), (2, .int (nI at_))]) 1 (hz_dec kX12_isDigest 23 rfl) rfl (by decide) rfl ?_
        refine hz_goto (pc := 41) (tgt := 5) (hz_dec kX12_isDigest 24 rfl) (by decide) ?_
        refine hz_pick (pc := 5) [0, 1, 2, 3, 4] rfl ?_
        refine ih (32 - (i + 1)) (by omega) (i + 1) rfl (by omega) (fun j hj => ?_)
        rcases (show j = i ∨ j < i by omega) with rfl | c
        · rw [Nat.zero_add]; exact h3
        · exact hs j c
set_option maxHeartbeats 4000000 in
set_option maxRecDepth 100000 in
theorem c_isDg {κ : hz_C} {z : Nat} {M : hz_M} {B : Nat} {fs : List Value} (hO : M B = .inr (12, fs)) (hF : md_F B fs) (h8 : 8 ≤ B) (hz : B + 88 ≤ z) {d : Nat → Int32} (hd : M (B + 5) = .inl (1, 32, .inl d)) {r nb at_ : Nat} {g : Nat → Int32} (hR : M r = .inl (1, nb, .inl g)) (hr8 : 8 ≤ r) (hrz : r < z) (hnb : nb < 2 ^ 30) (hrr : at_ + 32 ≤ nb) : hz_Mt κ xX12_isDigest 0 0 0 [.ref B, .ref r, .int (nI at_)] z M (hz_ex (some (.int (hz_b (smB d g 0 at_ 32)))) z M) := by
  refine hz_ent (lo := [(0, .ref B), (1, .ref r), (2, .int (nI at_))]) (by decide) (Nat.le_of_ble_eq_true rfl) rfl ?_
  refine hz_iconst (pc := 0) (v := nI 1) (hz_dec kX12_isDigest 0 rfl) (by decide) ?_
  refine hz_istoren (pc := 1) (i := 3) (lo2 := [(3, .int (nI 1)), (0, .ref B), (1, .ref r), (2, .int (nI at_))]) (hz_dec kX12_isDigest 1 rfl) rfl (by decide) rfl ?_
  refine hz_iconst (pc := 2) (v := nI 0) (hz_dec kX12_isDigest 2 rfl) (by decide) ?_
  refine hz_istore (pc := 3) (i := 4) (lo2 := [(4, .int (nI 0)), (3, .int (nI 1)), (0, .ref B), (1, .ref r), (2, .int (nI at_))]) (hz_dec kX12_isDigest 3 rfl) (by decide) rfl ?_
  refine hz_pick (pc := 5) [0, 1, 2, 3, 4] rfl ?_
  exact c_iD_l hO hF h8 hz hd hR hr8 hrz hnb hrr 32 0 rfl (by omega) (fun j hj => absurd hj (by omega))
set_option maxHeartbeats 4000000 in
set_option maxRecDepth 100000 in
theorem c_putRw {κ : hz_C} {z : Nat} {M : hz_M} {b n : Nat} {f : Nat → Int32} (hM : M b = .inl (1, n, .inl f)) (ha : 8 ≤ b) (hz : b < z) (hn : n < 2 ^ 30) {at_ : Nat} {h : Int32} {v ad : Int64} (hr : at_ + 22 ≤ n) : hz_Mt κ xX0_putReward 1 0 0 [.ref b, .int (nI at_), .int h, .long v, .long ad] z M (hz_ex none z (va_up M b (.inl (1, n, .inl (bn_put (at_ + 14) 8 ad (bn_put (at_ + 6) 8 v (bn_put (at_ + 2) 4 h.toInt64 (bn_put at_ 2 1 f)))))))) := by
  refine hz_ent (lo := [(0, .ref b), (1, .int (nI at_)), (2, .int h), (3, .long v), (5, .long ad)]) (by decide) (Nat.le_of_ble_eq_true rfl) rfl ?_
  refine hz_aloadn (pc := 0) 0 (hz_dec kX0_putReward 0 rfl) rfl ?_
  refine hz_iloadn (pc := 1) 1 (hz_dec kX0_putReward 1 rfl) rfl ?_
  refine hz_lconst (pc := 2) (v := 1) (hz_dec kX0_putReward 2 rfl) (by decide) ?_
  refine hz_iconst (pc := 3) (v := nI 2) (hz_dec kX0_putReward 3 rfl) (by decide) ?_
  refine hz_xS (pc := 4) (As := [.ref b, .int (nI at_), .long 1, .int (nI 2)]) (st := []) (hz_dec kX0_putReward 4 rfl) co_X0_37 sc_X0_put (c_put hM ha hz (by omega) (by omega)) rfl (by decide) ⟨Nat.le_refl _, Nat.le_refl _⟩ (Nat.le_of_ble_eq_true rfl) rfl ?_
  refine hz_aloadn (pc := 7) 0 (hz_dec kX0_putReward 5 rfl) rfl ?_
  refine hz_iloadn (pc := 8) 1 (hz_dec kX0_putReward 6 rfl) rfl ?_
  refine hz_iconst (pc := 9) (v := nI 2) (hz_dec kX0_putReward 7 rfl) (by decide) ?_
  refine hz_addN (pc := 10) (hz_dec kX0_putReward 8 rfl) ?_
  refine hz_iloadn (pc := 11) 2 (hz_dec kX0_putReward 9 rfl) rfl ?_
  refine hz_i2l (pc := 12) (hz_dec kX0_putReward 10 rfl) ?_
  refine hz_iconst (pc := 13) (v := nI 4) (hz_dec kX0_putReward 11 rfl) (by decide) ?_
  refine hz_xS (pc := 14) (As := [.ref b, .int (nI (at_ + 2)), .long (h).toInt64, .int (nI 4)]) (st := []) (hz_dec kX0_putReward 12 rfl) co_X0_37 sc_X0_put (c_put (va_up_self _ _ _) ha hz (by omega) (by omega)) rfl (by decide) ⟨Nat.le_refl _, Nat.le_refl _⟩ (Nat.le_of_ble_eq_true rfl) rfl ?_
  refine hz_mem (pc := 17) (M2 := (va_up M b (.inl (1, n, .inl (bn_put (at_ + 2) 4 h.toInt64 (bn_put at_ 2 1 f)))))) (bx_uu _ _ _ _) ?_
  refine hz_aloadn (pc := 17) 0 (hz_dec kX0_putReward 13 rfl) rfl ?_
  refine hz_iloadn (pc := 18) 1 (hz_dec kX0_putReward 14 rfl) rfl ?_
  refine hz_bipush (pc := 19) (v := nI 6) (hz_dec kX0_putReward 15 rfl) (by decide) ?_
  refine hz_addN (pc := 21) (hz_dec kX0_putReward 16 rfl) ?_
  refine hz_lloadn (pc := 22) 3 (hz_dec kX0_putReward 17 rfl) rfl ?_
  refine hz_bipush (pc := 23) (v := nI 8) (hz_dec kX0_putReward 18 rfl) (by decide) ?_
  refine hz_xS (pc := 25) (As := [.ref b, .int (nI (at_ + 6)), .long v, .int (nI 8)]) (st := []) (hz_dec kX0_putReward 19 rfl) co_X0_37 sc_X0_put (c_put (va_up_self _ _ _) ha hz (by omega) (by omega)) rfl (by decide) ⟨Nat.le_refl _, Nat.le_refl _⟩ (Nat.le_of_ble_eq_true rfl) rfl ?_
  refine hz_mem (pc := 28) (M2 := (va_up M b (.inl (1, n, .inl (bn_put (at_ + 6) 8 v (bn_put (at_ + 2) 4 h.toInt64 (bn_put at_ 2 1 f))))))) (bx_uu _ _ _ _) ?_
  refine hz_aloadn (pc := 28) 0 (hz_dec kX0_putReward 20 rfl) rfl ?_
  refine hz_iloadn (pc := 29) 1 (hz_dec kX0_putReward 21 rfl) rfl ?_
  refine hz_bipush (pc := 30) (v := nI 14) (hz_dec kX0_putReward 22 rfl) (by decide) ?_
  refine hz_addN (pc := 32) (hz_dec kX0_putReward 23 rfl) ?_
  refine hz_lload (pc := 33) 4 (hz_dec kX0_putReward 24 rfl) rfl ?_
  refine hz_bipush (pc := 35) (v := nI 8) (hz_dec kX0_putReward 25 rfl) (by decide) ?_
  refine hz_xS (pc := 37) (As := [.ref b, .int (nI (at_ + 14)), .long ad, .int (nI 8)]) (st := []) (hz_dec kX0_putReward 26 rfl) co_X0_37 sc_X0_put (c_put (va_up_self _ _ _) ha hz (by omega) (by omega)) rfl (by decide) ⟨Nat.le_refl _, Nat.le_refl _⟩ (Nat.le_of_ble_eq_true rfl) rfl ?_
  refine hz_mem (pc := 40) (M2 := (va_up M b (.inl (1, n, .inl (bn_put (at_ + 14) 8 ad (bn_put (at_ + 6) 8 v (bn_put (at_ + 2) 4 h.toInt64 (bn_put at_ 2 1 f)))))))) (bx_uu _ _ _ _) ?_
  exact hz_vret (pc := 40) (hz_dec kX0_putReward 27 rfl) rfl ⟨rfl, rfl, rfl⟩
