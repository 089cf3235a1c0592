/-! the reference: the same bytes -/
def smB (f g : Nat → Int32) (a b n : Nat) : Bool := decide (∀ j, j < n → f (a + j) = g (b + j))
theorem smB_t {f g : Nat → Int32} {a b n : Nat} (h : ∀ j, j < n → f (a + j) = g (b + j)) : hz_b (smB f g a b n) = nI 1 := by rw [show smB f g a b n = true from decide_eq_true h]; rfl
theorem smB_f {f g : Nat → Int32} {a b n i : Nat} (hi : i < n) (h : ¬ f (a + i) = g (b + i)) : hz_b (smB f g a b n) = nI 0 := by rw [show smB f g a b n = false from decide_eq_false (fun q => h (q i hi))]; rfl
set_option maxHeartbeats 4000000 in
set_option maxRecDepth 100000 in
theorem c_sb_0 {κ : hz_C} {z : Nat} {M : hz_M} {b nb b2 nb2 : Nat} {f g : Nat → Int32} (hM : M b = .inl (1, nb, .inl f)) (ha : 8 ≤ b) (hz : b < z) (hn : nb < 2 ^ 30) (hM2 : M b2 = .inl (1, nb2, .inl g)) (ha2 : 8 ≤ b2) (hz2 : b2 < z) (hn2 : nb2 < 2 ^ 30) {i0 j0 n : Nat} (hr : i0 + n ≤ nb) (hr2 : j0 + n ≤ nb2) {i q : Nat} (hi : i ≤ n) (hq : q < n) (hne : ¬ f (i0 + q) = g (j0 + q)) : hz_W κ xX12_sameBytes 0 0 0 (hz_ex (some (.int (hz_b (smB f g i0 j0 n)))) z M) 0 0 6 [(6, .int (nI i)), (5, .int (nI 0)), (0, .ref b), (1, .int (nI i0)), (2, .ref b2), (3, .int (nI j0)), (4, .int (nI n))] [] z M := by
  refine hz_iload (pc := 6) 0 (hz_dec kX12_sameBytes 4 rfl) rfl ?_
  refine hz_iload (pc := 8) 6 (hz_dec kX12_sameBytes 5 rfl) rfl ?_
  refine hz_n_ge (pc := 10) (tgt := 46) (hz_dec kX12_sameBytes 6 rfl) (by decide) (by omega) (by omega) (fun h1 => ?_) (fun h1 => ?_)
  · skip
    refine hz_iload (pc := 46) 1 (hz_dec kX12_sameBytes 26 rfl) rfl ?_
    exact hz_zret (pc := 48) (hz_dec kX12_sameBytes 27 rfl) rfl rfl ⟨by rw [smB_f hq hne], rfl, rfl⟩
  · skip
    refine hz_iload (pc := 13) 1 (hz_dec kX12_sameBytes 7 rfl) rfl ?_
    refine hz_z_eq (pc := 15) (tgt := 46) (hz_dec kX12_sameBytes 8 rfl) (by decide) (by omega) (fun h2 => ?_) (fun h2 => ?_)
    · skip
      refine hz_iload (pc := 46) 1 (hz_dec kX12_sameBytes 26 rfl) rfl ?_
      exact hz_zret (pc := 48) (hz_dec kX12_sameBytes 27 rfl) rfl rfl ⟨by rw [smB_f hq hne], rfl, rfl⟩
    · skip
      exact absurd h2 (by omega)
set_option maxHeartbeats 4000000 in
set_option maxRecDepth 100000 in
theorem c_sb_l {κ : hz_C} {z : Nat} {M : hz_M} {b nb b2 nb2 : Nat} {f g : Nat → Int32} (hM : M b = .inl (1, nb, .inl f)) (ha : 8 ≤ b) (hz : b < z) (hn : nb < 2 ^ 30) (hM2 : M b2 = .inl (1, nb2, .inl g)) (ha2 : 8 ≤ b2) (hz2 : b2 < z) (hn2 : nb2 < 2 ^ 30) {i0 j0 n : Nat} (hr : i0 + n ≤ nb) (hr2 : j0 + n ≤ nb2) : ∀ k i, k = n - i → i ≤ n → (∀ j, j < i → f (i0 + j) = g (j0 + j)) → hz_W κ xX12_sameBytes 0 0 0 (hz_ex (some (.int (hz_b (smB f g i0 j0 n)))) z M) 0 0 6 [(6, .int (nI i)), (5, .int (nI 1)), (0, .ref b), (1, .int (nI i0)), (2, .ref b2), (3, .int (nI j0)), (4, .int (nI n))] [] z M := by
  intro k
  induction k using Nat.strongRecOn with
  | ind k ih =>
  intro i hk hi hs
  refine hz_iload (pc := 6) 0 (hz_dec kX12_sameBytes 4 rfl) rfl ?_
  refine hz_iload (pc := 8) 6 (hz_dec kX12_sameBytes 5 rfl) rfl ?_
  refine hz_n_ge (pc := 10) (tgt := 46) (hz_dec kX12_sameBytes 6 rfl) (by decide) (by omega) (by omega) (fun h1 => ?_) (fun h1 => ?_)
  · skip
    have e : i = n := by omega
    subst e
    refine hz_iload (pc := 46) 1 (hz_dec kX12_sameBytes 26 rfl) rfl ?_
    exact hz_zret (pc := 48) (hz_dec kX12_sameBytes 27 rfl) rfl rfl ⟨by rw [smB_t hs], rfl, rfl⟩
  · skip
    refine hz_iload (pc := 13) 1 (hz_dec kX12_sameBytes 7 rfl) rfl ?_
    refine hz_z_eq (pc := 15) (tgt := 46) (hz_dec kX12_sameBytes 8 rfl) (by decide) (by omega) (fun h2 => ?_) (fun h2 => ?_)
    · skip
      exact absurd h2 (by decide)
    · skip
      refine hz_aloadn (pc := 18) 2 (hz_dec kX12_sameBytes 9 rfl) rfl ?_
      refine hz_iloadn (pc := 19) 3 (hz_dec kX12_sameBytes 10 rfl) rfl ?_
      refine hz_iload (pc := 20) 0 (hz_dec kX12_sameBytes 11 rfl) rfl ?_
      refine hz_addN (pc := 22) (hz_dec kX12_sameBytes 12 rfl) ?_
      refine hz_bald (pc := 23) (j := i0 + i) (hz_dec kX12_sameBytes 13 rfl) hM ha hz rfl (by omega) (by omega) ?_
      refine hz_aloadn (pc := 24) 4 (hz_dec kX12_sameBytes 14 rfl) rfl ?_
      refine hz_iloadn (pc := 25) 5 (hz_dec kX12_sameBytes 15 rfl) rfl ?_
      refine hz_iload (pc := 26) 0 (hz_dec kX12_sameBytes 16 rfl) rfl ?_
      refine hz_addN (pc := 28) (hz_dec kX12_sameBytes 17 rfl) ?_
      refine hz_bald (pc := 29) (j := j0 + i) (hz_dec kX12_sameBytes 18 rfl) hM2 ha2 hz2 rfl (by omega) (by omega) ?_
      refine hz_icmp_ne (pc := 30) (tgt := 37) (hz_dec kX12_sameBytes 19 rfl) (by decide) (fun h3 => ?_) (fun h3 => ?_)
      · skip
        refine hz_iconst (pc := 37) (v := nI 0) (hz_dec kX12_sameBytes 22 rfl) (by decide) ?_
        refine hz_istore (pc := 38) (i := 5) (lo2 := [(5, .int (nI 0)), (6, .int (nI i)), (0, .ref b), (1, .int (nI i0)), (2, .ref b2), (3, .int (nI j0)), (4, .int (nI n))]) (hz_dec kX12_sameBytes 23 rfl) (by decide) rfl ?_
        refine hz_incN (pc := 40) (i := 6) (lo2 := [(6, .int (nI (i + 1))), (5, .int (nI 0)), (0, .ref b), (1, .int (nI i0)), (2, .ref b2), (3, .int (nI j0)), (4, .int (nI n))]) 1 (hz_dec kX12_sameBytes 24 rfl) rfl (by decide) rfl ?_
        refine hz_goto (pc := 43) (tgt := 6) (hz_dec kX12_sameBytes 25 rfl) (by decide) ?_
        refine hz_pick (pc := 6) [0, 1, 2, 3, 4, 5, 6] rfl ?_
        exact c_sb_0 hM ha hz hn hM2 ha2 hz2 hn2 hr hr2 (by omega) h1 h3
      · skip
        refine hz_iconst (pc := 33) (v := nI 1) (hz_dec kX12_sameBytes 20 rfl) (by decide) ?_
        refine hz_goto (pc := 34) (tgt := 38) (hz_dec kX12_sameBytes 21 rfl) (by decide) ?_
        refine hz_istore (pc := 38) (i := 5) (lo2 := [(5, .int (nI 1)), (6, .int (nI i)), (0, .ref b), (1, .int (nI i0)), (2, .ref b2), (3, .int (nI j0)), (4, .int (nI n))]) (hz_dec kX12_sameBytes 23 rfl) (by decide) rfl ?_
        refine hz_incN (pc := 40) (i := 6) (lo2 := [(6, .int (nI (i + 1))), (5, .int (nI 1)), (0, .ref b), (1, .int (nI i0)), (2, .ref b2), (3, .int (nI j0)), (4, .int (nI n))]) 1 (hz_dec kX12_sameBytes 24 rfl) rfl (by decide) rfl ?_
        refine hz_goto (pc := 43) (tgt := 6) (hz_dec kX12_sameBytes 25 rfl) (by decide) ?_
        refine hz_pick (pc := 6) [0, 1, 2, 3, 4, 5, 6] rfl ?_
        refine ih (n - (i + 1)) (by omega) (i + 1) rfl (by omega) (fun j hj => ?_)
        rcases (show j = i ∨ j < i by omega) with rfl | c
        · exact h3
        · exact hs j c
set_option maxHeartbeats 4000000 in
set_option maxRecDepth 100000 in
theorem c_sameB {κ : hz_C} {z : Nat} {M : hz_M} {b nb b2 nb2 : Nat} {f g : Nat → Int32} (hM : M b = .inl (1, nb, .inl f)) (ha : 8 ≤ b) (hz : b < z) (hn : nb < 2 ^ 30) (hM2 : M b2 = .inl (1, nb2, .inl g)) (ha2 : 8 ≤ b2) (hz2 : b2 < z) (hn2 : nb2 < 2 ^ 30) {i0 j0 n : Nat} (hr : i0 + n ≤ nb) (hr2 : j0 + n ≤ nb2) : hz_Mt κ xX12_sameBytes 0 0 0 [.ref b, .int (nI i0), .ref b2, .int (nI j0), .int (nI n)] z M (hz_ex (some (.int (hz_b (smB f g i0 j0 n)))) z M) := by
  refine hz_ent (lo := [(0, .ref b), (1, .int (nI i0)), (2, .ref b2), (3, .int (nI j0)), (4, .int (nI n))]) (by decide) (Nat.le_of_ble_eq_true rfl) rfl ?_
  refine hz_iconst (pc := 0) (v := nI 1) (hz_dec kX12_sameBytes 0 rfl) (by decide) ?_
  refine hz_istore (pc := 1) (i := 5) (lo2 := [(5, .int (nI 1)), (0, .ref b), (1, .int (nI i0)), (2, .ref b2), (3, .int (nI j0)), (4, .int (nI n))]) (hz_dec kX12_sameBytes 1 rfl) (by decide) rfl ?_
  refine hz_iconst (pc := 3) (v := nI 0) (hz_dec kX12_sameBytes 2 rfl) (by decide) ?_
  refine hz_istore (pc := 4) (i := 6) (lo2 := [(6, .int (nI 0)), (5, .int (nI 1)), (0, .ref b), (1, .int (nI i0)), (2, .ref b2), (3, .int (nI j0)), (4, .int (nI n))]) (hz_dec kX12_sameBytes 3 rfl) (by decide) rfl ?_
  refine hz_pick (pc := 6) [0, 1, 2, 3, 4, 5, 6] rfl ?_
  exact c_sb_l hM ha hz hn hM2 ha2 hz2 hn2 hr hr2 n 0 rfl (by omega) (fun j hj => absurd hj (by omega))
