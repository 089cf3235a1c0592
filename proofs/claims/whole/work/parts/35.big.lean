/-! numbers of many words, the highest first -/
def bg (f : Nat → Int32) (a : Nat) : Nat → Nat
  | 0 => 0
  | k + 1 => bg f a k * 4294967296 + un (f (a + k))
theorem bg_lt (f : Nat → Int32) (a : Nat) : ∀ k, bg f a k < 4294967296 ^ k := by
  intro k
  induction k with
  | zero => exact Nat.zero_lt_one
  | succ k ih =>
    have h := un_lt (f (a + k))
    simp only [bg]
    rw [Nat.pow_succ]
    omega
theorem bg_c {f g : Nat → Int32} {a b : Nat} : ∀ k, (∀ i, i < k → f (a + i) = g (b + i)) → bg f a k = bg g b k := by
  intro k
  induction k with
  | zero => intro _; rfl
  | succ k ih =>
    intro h
    simp only [bg, ih (fun i hi => h i (by omega)), h k (by omega)]
theorem bg_less {f g : Nat → Int32} {a b k : Nat} (h : bg f a k < bg g b k) : ∀ m, bg f a (k + m) < bg g b (k + m) := by
  intro m
  induction m with
  | zero => exact h
  | succ m ih =>
    have h1 := un_lt (f (a + (k + m)))
    show bg f a (k + m) * 4294967296 + un (f (a + (k + m))) < bg g b (k + m) * 4294967296 + un (g (b + (k + m)))
    omega
def cmpN (x y : Nat) : Int32 := if x < y then -1 else if x = y then 0 else 1
theorem lc_eq {m n : Nat} (hm : m < 2 ^ 63) (hn : n < 2 ^ 63) : lg_cmp (lN m) (lN n) = 0 ↔ m = n := (lg_cmp_eq _ _).trans (pk_lEQ hm hn)
theorem lc_ge {m n : Nat} (hm : m < 2 ^ 63) (hn : n < 2 ^ 63) : 0 ≤ lg_cmp (lN m) (lN n) ↔ n ≤ m := (lg_cmp_ge _ _).trans (pk_lLE hn hm)
theorem lc_le {m n : Nat} (hm : m < 2 ^ 63) (hn : n < 2 ^ 63) : lg_cmp (lN m) (lN n) ≤ 0 ↔ m ≤ n := (lg_cmp_le _ _).trans (pk_lLE hm hn)
theorem lc_lt {m n : Nat} (hm : m < 2 ^ 63) (hn : n < 2 ^ 63) : lg_cmp (lN m) (lN n) < 0 ↔ m < n := (lg_cmp_lt _ _).trans (pk_lLT hm hn)
theorem cmp_0 {f g : Nat → Int32} {a b n : Nat} (h : ∀ j, j < n → f (a + j) = g (b + j)) : cmpN (bg f a n) (bg g b n) = 0 := by
  rw [bg_c n h]
  unfold cmpN
  rw [if_neg (Nat.lt_irrefl _), if_pos rfl]
theorem cmp_l {f g : Nat → Int32} {a b n i : Nat} (h : ∀ j, j < i → f (a + j) = g (b + j)) (hi : i < n) (hl : un (f (a + i)) < un (g (b + i))) : cmpN (bg f a n) (bg g b n) = -1 := by
  have q := bg_less (f := f) (g := g) (a := a) (b := b) (k := i + 1) (by simp only [bg, bg_c i h]; omega) (n - (i + 1))
  rw [show i + 1 + (n - (i + 1)) = n by omega] at q
  unfold cmpN
  rw [if_pos q]
theorem cmp_g {f g : Nat → Int32} {a b n i : Nat} (h : ∀ j, j < i → f (a + j) = g (b + j)) (hi : i < n) (hl : un (g (b + i)) < un (f (a + i))) : cmpN (bg f a n) (bg g b n) = 1 := by
  have q := bg_less (f := g) (g := f) (a := b) (b := a) (k := i + 1) (by simp only [bg, bg_c i h]; omega) (n - (i + 1))
  rw [show i + 1 + (n - (i + 1)) = n by omega] at q
  unfold cmpN
  rw [if_neg (by omega), if_neg (by omega)]
theorem cmpN_le {x y : Nat} : cmpN x y ≤ 0 ↔ x ≤ y := by
  unfold cmpN
  split
  · exact ⟨fun _ => by omega, fun _ => by decide⟩
  · split
    · exact ⟨fun _ => by omega, fun _ => by decide⟩
    · exact ⟨fun q => absurd q (by decide), fun _ => by omega⟩
theorem cmpN_ge {x y : Nat} : 0 ≤ cmpN x y ↔ y ≤ x := by
  unfold cmpN
  split
  · exact ⟨fun q => absurd q (by decide), fun _ => by omega⟩
  · split
    · exact ⟨fun _ => by omega, fun _ => by decide⟩
    · exact ⟨fun _ => by omega, fun _ => by decide⟩
theorem un_eq {x y : Int32} : un x = un y ↔ x = y := ⟨un_inj, fun h => by rw [h]⟩

set_option maxHeartbeats 4000000 in
set_option maxRecDepth 100000 in
theorem c_cmpW_l {κ : hz_C} {z : Nat} {M : hz_M} {b n b2 n2 : Nat} {f g : Nat → Int32} (hM : M b = .inl (0, n, .inl f)) (ha : 8 ≤ b) (hz : b < z) (hn : n < 2 ^ 30) (hM2 : M b2 = .inl (0, n2, .inl g)) (ha2 : 8 ≤ b2) (hz2 : b2 < z) (hn2 : n2 < 2 ^ 30) {i0 j0 : Nat} (hr : i0 + 8 ≤ n) (hr2 : j0 + 8 ≤ n2) : ∀ k i, k = 8 - i → i ≤ 8 → (∀ j, j < i → f (i0 + j) = g (j0 + j)) → hz_W κ xX9_compareWords 0 0 0 (hz_ex (some (.int (cmpN (bg f i0 8) (bg g j0 8)))) z M) 0 0 31 [(4, .int (nI i)), (0, .ref b), (1, .int (nI i0)), (2, .ref b2), (3, .int (nI j0))] [] z M := by
  intro k
  induction k using Nat.strongRecOn with
  | ind k ih =>
  intro i hk hi hs
  refine hz_iload (pc := 31) 0 (hz_dec kX9_compareWords 20 rfl) rfl ?_
  refine hz_bipush (pc := 33) (v := nI 8) (hz_dec kX9_compareWords 21 rfl) (by decide) ?_
  refine hz_n_ge (pc := 35) (tgt := 92) (hz_dec kX9_compareWords 22 rfl) (by decide) (by omega) (by omega) (fun h1 => ?_) (fun h1 => ?_)
  · skip
    have e : i = 8 := by omega
    subst e
    refine hz_iconst (pc := 92) (v := nI 0) (hz_dec kX9_compareWords 55 rfl) (by decide) ?_
    exact hz_iret (pc := 93) (hz_dec kX9_compareWords 56 rfl) rfl ⟨by rw [cmp_0 hs]; rfl, rfl, rfl⟩
  · skip
    have hu1 := un_lt (f (i0 + i))
    have hu2 := un_lt (g (j0 + i))
    refine hz_aloadn (pc := 38) 1 (hz_dec kX9_compareWords 23 rfl) rfl ?_
    refine hz_iloadn (pc := 39) 2 (hz_dec kX9_compareWords 24 rfl) rfl ?_
    refine hz_iload (pc := 40) 0 (hz_dec kX9_compareWords 25 rfl) rfl ?_
    refine hz_addN (pc := 42) (hz_dec kX9_compareWords 26 rfl) ?_
    refine hz_iald (pc := 43) (j := i0 + i) (hz_dec kX9_compareWords 27 rfl) hM ha hz rfl (by omega) (by omega) ?_
    refine hz_i2l (pc := 44) (hz_dec kX9_compareWords 28 rfl) ?_
    refine hz_ldc2 (pc := 45) (v := (4294967295)) (hz_dec kX9_compareWords 29 rfl) ks_X9_28 ?_
    refine hz_land (pc := 48) (hz_dec kX9_compareWords 30 rfl) ?_
    refine hz_eql (pc := 49) (i_lo32 (f (i0 + i))) ?_
    refine hz_lstore (pc := 49) (i := 5) (lo2 := [(5, .long (lN (un (f (i0 + i))))), (4, .int (nI i)), (0, .ref b), (1, .int (nI i0)), (2, .ref b2), (3, .int (nI j0))]) (hz_dec kX9_compareWords 31 rfl) (by decide) rfl ?_
    refine hz_aloadn (pc := 51) 4 (hz_dec kX9_compareWords 32 rfl) rfl ?_
    refine hz_iloadn (pc := 52) 5 (hz_dec kX9_compareWords 33 rfl) rfl ?_
    refine hz_iload (pc := 53) 1 (hz_dec kX9_compareWords 34 rfl) rfl ?_
    refine hz_addN (pc := 55) (hz_dec kX9_compareWords 35 rfl) ?_
    refine hz_iald (pc := 56) (j := j0 + i) (hz_dec kX9_compareWords 36 rfl) hM2 ha2 hz2 rfl (by omega) (by omega) ?_
    refine hz_i2l (pc := 57) (hz_dec kX9_compareWords 37 rfl) ?_
    refine hz_ldc2 (pc := 58) (v := (4294967295)) (hz_dec kX9_compareWords 38 rfl) ks_X9_28 ?_
    refine hz_land (pc := 61) (hz_dec kX9_compareWords 39 rfl) ?_
    refine hz_eql (pc := 62) (i_lo32 (g (j0 + i))) ?_
    refine hz_lstore (pc := 62) (i := 7) (lo2 := [(7, .long (lN (un (g (j0 + i))))), (5, .long (lN (un (f (i0 + i))))), (4, .int (nI i)), (0, .ref b), (1, .int (nI i0)), (2, .ref b2), (3, .int (nI j0))]) (hz_dec kX9_compareWords 40 rfl) (by decide) rfl ?_
    refine hz_lload (pc := 64) 1 (hz_dec kX9_compareWords 41 rfl) rfl ?_
    refine hz_lload (pc := 66) 0 (hz_dec kX9_compareWords 42 rfl) rfl ?_
    refine hz_lcmp (pc := 68) (hz_dec kX9_compareWords 43 rfl) ?_
    refine hz_if_eq (pc := 69) (tgt := 86) (hz_dec kX9_compareWords 44 rfl) (by decide) (fun h2 => ?_) (fun h2 => ?_)
    · skip
      refine hz_incN (pc := 86) (i := 4) (lo2 := [(4, .int (nI (i + 1))), (7, .long (lN (un (g (j0 + i))))), (5, .long (lN (un (f (i0 + i))))), (0, .ref b), (1, .int (nI i0)), (2, .ref b2), (3, .int (nI j0))]) 2 (hz_dec kX9_compareWords 53 rfl) rfl (by decide) rfl ?_
      refine hz_goto (pc := 89) (tgt := 31) (hz_dec kX9_compareWords 54 rfl) (by decide) ?_
      refine hz_pick (pc := 31) [0, 3, 4, 5, 6] rfl ?_
      refine ih (8 - (i + 1)) (by omega) (i + 1) rfl (by omega) (fun j hj => ?_)
      rcases Nat.lt_or_ge j i with r | r
      · exact hs j r
      · have e : j = i := by omega
        subst e; exact un_inj ((lc_eq (by omega) (by omega)).mp h2)
    · skip
      refine hz_lload (pc := 72) 1 (hz_dec kX9_compareWords 45 rfl) rfl ?_
      refine hz_lload (pc := 74) 0 (hz_dec kX9_compareWords 46 rfl) rfl ?_
      refine hz_lcmp (pc := 76) (hz_dec kX9_compareWords 47 rfl) ?_
      refine hz_if_ge (pc := 77) (tgt := 84) (hz_dec kX9_compareWords 48 rfl) (by decide) (fun h3 => ?_) (fun h3 => ?_)
      · skip
        refine hz_iconst (pc := 84) (v := nI 1) (hz_dec kX9_compareWords 51 rfl) (by decide) ?_
        exact hz_iret (pc := 85) (hz_dec kX9_compareWords 52 rfl) rfl ⟨by rw [cmp_g hs h1 (by have q := (lc_ge (by omega) (by omega)).mp h3; have q2 := mt (lc_eq (by omega) (by omega)).mpr h2; omega)]; rfl, rfl, rfl⟩
      · skip
        refine hz_iconst (pc := 80) (v := (-1)) (hz_dec kX9_compareWords 49 rfl) (by decide) ?_
        refine hz_goto (pc := 81) (tgt := 85) (hz_dec kX9_compareWords 50 rfl) (by decide) ?_
        exact hz_iret (pc := 85) (hz_dec kX9_compareWords 52 rfl) rfl ⟨by rw [cmp_l hs h1 (by have q := mt (lc_ge (by omega) (by omega)).mpr h3; omega)], rfl, rfl⟩
set_option maxHeartbeats 4000000 in
set_option maxRecDepth 100000 in
theorem c_cmpW {κ : hz_C} {z : Nat} {M : hz_M} {b n b2 n2 : Nat} {f g : Nat → Int32} (hM : M b = .inl (0, n, .inl f)) (ha : 8 ≤ b) (hz : b < z) (hn : n < 2 ^ 30) (hM2 : M b2 = .inl (0, n2, .inl g)) (ha2 : 8 ≤ b2) (hz2 : b2 < z) (hn2 : n2 < 2 ^ 30) {i0 j0 : Nat} (hr : i0 + 8 ≤ n) (hr2 : j0 + 8 ≤ n2) : hz_Mt κ xX9_compareWords 0 0 0 [.ref b, .int (nI i0), .ref b2, .int (nI j0)] z M (hz_ex (some (.int (cmpN (bg f i0 8) (bg g j0 8)))) z M) := by
  refine hz_ent (lo := [(0, .ref b), (1, .int (nI i0)), (2, .ref b2), (3, .int (nI j0))]) (by decide) (Nat.le_of_ble_eq_true rfl) rfl ?_
  refine hz_iloadn (pc := 0) 1 (hz_dec kX9_compareWords 0 rfl) rfl ?_
  refine hz_z_lt (pc := 1) (tgt := 26) (hz_dec kX9_compareWords 1 rfl) (by decide) (by omega) ?_
  refine hz_iloadn (pc := 4) 1 (hz_dec kX9_compareWords 2 rfl) rfl ?_
  refine hz_aloadn (pc := 5) 0 (hz_dec kX9_compareWords 3 rfl) rfl ?_
  refine hz_alen (pc := 6) (hz_dec kX9_compareWords 4 rfl) hM (by decide) ha hz ?_
  refine hz_bipush (pc := 7) (v := nI 8) (hz_dec kX9_compareWords 5 rfl) (by decide) ?_
  refine hz_subN (pc := 9) (hz_dec kX9_compareWords 6 rfl) (by omega) ?_
  refine hz_n_gt (pc := 10) (tgt := 26) (hz_dec kX9_compareWords 7 rfl) (by decide) (by omega) (by omega) (fun h1 => ?_) (fun h1 => ?_)
  · skip
    exact absurd h1 (by omega)
  · skip
    refine hz_iloadn (pc := 13) 3 (hz_dec kX9_compareWords 8 rfl) rfl ?_
    refine hz_z_lt (pc := 14) (tgt := 26) (hz_dec kX9_compareWords 9 rfl) (by decide) (by omega) ?_
    refine hz_iloadn (pc := 17) 3 (hz_dec kX9_compareWords 10 rfl) rfl ?_
    refine hz_aloadn (pc := 18) 2 (hz_dec kX9_compareWords 11 rfl) rfl ?_
    refine hz_alen (pc := 19) (hz_dec kX9_compareWords 12 rfl) hM2 (by decide) ha2 hz2 ?_
    refine hz_bipush (pc := 20) (v := nI 8) (hz_dec kX9_compareWords 13 rfl) (by decide) ?_
    refine hz_subN (pc := 22) (hz_dec kX9_compareWords 14 rfl) (by omega) ?_
    refine hz_n_le (pc := 23) (tgt := 28) (hz_dec kX9_compareWords 15 rfl) (by decide) (by omega) (by omega) (fun h4 => ?_) (fun h4 => ?_)
    · skip
      refine hz_iconst (pc := 28) (v := nI 0) (hz_dec kX9_compareWords 18 rfl) (by decide) ?_
      refine hz_istore (pc := 29) (i := 4) (lo2 := [(4, .int (nI 0)), (0, .ref b), (1, .int (nI i0)), (2, .ref b2), (3, .int (nI j0))]) (hz_dec kX9_compareWords 19 rfl) (by decide) rfl ?_
      refine hz_pick (pc := 31) [0, 1, 2, 3, 4] rfl ?_
      exact c_cmpW_l hM ha hz hn hM2 ha2 hz2 hn2 hr hr2 8 0 rfl (by omega) (fun j hj => absurd hj (by omega))
    · skip
      exact absurd h4 (by omega)
set_option maxHeartbeats 4000000 in
set_option maxRecDepth 100000 in
theorem c_cmpB_l {κ : hz_C} {z : Nat} {M : hz_M} {b n b2 n2 : Nat} {f g : Nat → Int32} (hM : M b = .inl (0, n, .inl f)) (ha : 8 ≤ b) (hz : b < z) (hn : n < 2 ^ 30) (hM2 : M b2 = .inl (0, n2, .inl g)) (ha2 : 8 ≤ b2) (hz2 : b2 < z) (hn2 : n2 < 2 ^ 30) (hr : 9 ≤ n) (hr2 : 9 ≤ n2) : ∀ k i, k = 9 - i → i ≤ 9 → (∀ j, j < i → f (0 + j) = g (0 + j)) → hz_W κ xX12_compareBig 0 0 0 (hz_ex (some (.int (cmpN (bg f 0 9) (bg g 0 9)))) z M) 0 0 2 [(2, .int (nI i)), (0, .ref b), (1, .ref b2)] [] z M := by
  intro k
  induction k using Nat.strongRecOn with
  | ind k ih =>
  intro i hk hi hs
  refine hz_iloadn (pc := 2) 0 (hz_dec kX12_compareBig 2 rfl) rfl ?_
  refine hz_bipush (pc := 3) (v := nI 9) (hz_dec kX12_compareBig 3 rfl) (by decide) ?_
  refine hz_n_ge (pc := 5) (tgt := 53) (hz_dec kX12_compareBig 4 rfl) (by decide) (by omega) (by omega) (fun h1 => ?_) (fun h1 => ?_)
  · skip
    have e : i = 9 := by omega
    subst e
    refine hz_iconst (pc := 53) (v := nI 0) (hz_dec kX12_compareBig 33 rfl) (by decide) ?_
    exact hz_iret (pc := 54) (hz_dec kX12_compareBig 34 rfl) rfl ⟨by rw [cmp_0 hs]; rfl, rfl, rfl⟩
  · skip
    have hu1 := un_lt (f i)
    have hu2 := un_lt (g i)
    refine hz_aloadn (pc := 8) 1 (hz_dec kX12_compareBig 5 rfl) rfl ?_
    refine hz_iloadn (pc := 9) 0 (hz_dec kX12_compareBig 6 rfl) rfl ?_
    refine hz_iald (pc := 10) (j := i) (hz_dec kX12_compareBig 7 rfl) hM ha hz rfl (by omega) (by omega) ?_
    refine hz_i2l (pc := 11) (hz_dec kX12_compareBig 8 rfl) ?_
    refine hz_ldc2 (pc := 12) (v := (4294967295)) (hz_dec kX12_compareBig 9 rfl) ks_X12_358 ?_
    refine hz_land (pc := 15) (hz_dec kX12_compareBig 10 rfl) ?_
    refine hz_eql (pc := 16) (i_lo32 (f i)) ?_
    refine hz_lstoren (pc := 16) (i := 3) (lo2 := [(3, .long (lN (un (f i)))), (2, .int (nI i)), (0, .ref b), (1, .ref b2)]) (hz_dec kX12_compareBig 11 rfl) rfl (by decide) rfl ?_
    refine hz_aloadn (pc := 17) 3 (hz_dec kX12_compareBig 12 rfl) rfl ?_
    refine hz_iloadn (pc := 18) 1 (hz_dec kX12_compareBig 13 rfl) rfl ?_
    refine hz_iald (pc := 19) (j := i) (hz_dec kX12_compareBig 14 rfl) hM2 ha2 hz2 rfl (by omega) (by omega) ?_
    refine hz_i2l (pc := 20) (hz_dec kX12_compareBig 15 rfl) ?_
    refine hz_ldc2 (pc := 21) (v := (4294967295)) (hz_dec kX12_compareBig 16 rfl) ks_X12_358 ?_
    refine hz_land (pc := 24) (hz_dec kX12_compareBig 17 rfl) ?_
    refine hz_eql (pc := 25) (i_lo32 (g i)) ?_
    refine hz_lstore (pc := 25) (i := 5) (lo2 := [(5, .long (lN (un (g i)))), (3, .long (lN (un (f i)))), (2, .int (nI i)), (0, .ref b), (1, .ref b2)]) (hz_dec kX12_compareBig 18 rfl) (by decide) rfl ?_
    refine hz_lloadn (pc := 27) 1 (hz_dec kX12_compareBig 19 rfl) rfl ?_
    refine hz_lload (pc := 28) 0 (hz_dec kX12_compareBig 20 rfl) rfl ?_
    refine hz_lcmp (pc := 30) (hz_dec kX12_compareBig 21 rfl) ?_
    refine hz_if_eq (pc := 31) (tgt := 47) (hz_dec kX12_compareBig 22 rfl) (by decide) (fun h2 => ?_) (fun h2 => ?_)
    · skip
      refine hz_incN (pc := 47) (i := 2) (lo2 := [(2, .int (nI (i + 1))), (5, .long (lN (un (g i)))), (3, .long (lN (un (f i)))), (0, .ref b), (1, .ref b2)]) 2 (hz_dec kX12_compareBig 31 rfl) rfl (by decide) rfl ?_
      refine hz_goto (pc := 50) (tgt := 2) (hz_dec kX12_compareBig 32 rfl) (by decide) ?_
      refine hz_pick (pc := 2) [0, 3, 4] rfl ?_
      refine ih (9 - (i + 1)) (by omega) (i + 1) rfl (by omega) (fun j hj => ?_)
      rcases Nat.lt_or_ge j i with r | r
      · exact hs j r
      · have e : j = i := by omega
        subst e; simp only [Nat.zero_add]; exact un_inj ((lc_eq (by omega) (by omega)).mp h2)
    · skip
      refine hz_lloadn (pc := 34) 1 (hz_dec kX12_compareBig 23 rfl) rfl ?_
      refine hz_lload (pc := 35) 0 (hz_dec kX12_compareBig 24 rfl) rfl ?_
      refine hz_lcmp (pc := 37) (hz_dec kX12_compareBig 25 rfl) ?_
      refine hz_if_ge (pc := 38) (tgt := 45) (hz_dec kX12_compareBig 26 rfl) (by decide) (fun h3 => ?_) (fun h3 => ?_)
      · skip
        refine hz_iconst (pc := 45) (v := nI 1) (hz_dec kX12_compareBig 29 rfl) (by decide) ?_
        exact hz_iret (pc := 46) (hz_dec kX12_compareBig 30 rfl) rfl ⟨by rw [cmp_g hs h1 (by simp only [Nat.zero_add]; have q := (lc_ge (by omega) (by omega)).mp h3; have q2 := mt (lc_eq (by omega) (by omega)).mpr h2; omega)]; rfl, rfl, rfl⟩
      · skip
        refine hz_iconst (pc := 41) (v := (-1)) (hz_dec kX12_compareBig 27 rfl) (by decide) ?_
        refine hz_goto (pc := 42) (tgt := 46) (hz_dec kX12_compareBig 28 rfl) (by decide) ?_
        exact hz_iret (pc := 46) (hz_dec kX12_compareBig 30 rfl) rfl ⟨by rw [cmp_l hs h1 (by simp only [Nat.zero_add]; have q := mt (lc_ge (by omega) (by omega)).mpr h3; omega)], rfl, rfl⟩
set_option maxHeartbeats 4000000 in
set_option maxRecDepth 100000 in
theorem c_cmpB {κ : hz_C} {z : Nat} {M : hz_M} {b n b2 n2 : Nat} {f g : Nat → Int32} (hM : M b = .inl (0, n, .inl f)) (ha : 8 ≤ b) (hz : b < z) (hn : n < 2 ^ 30) (hM2 : M b2 = .inl (0, n2, .inl g)) (ha2 : 8 ≤ b2) (hz2 : b2 < z) (hn2 : n2 < 2 ^ 30) (hr : 9 ≤ n) (hr2 : 9 ≤ n2) : hz_Mt κ xX12_compareBig 0 0 0 [.ref b, .ref b2] z M (hz_ex (some (.int (cmpN (bg f 0 9) (bg g 0 9)))) z M) := by
  refine hz_ent (lo := [(0, .ref b), (1, .ref b2)]) (by decide) (Nat.le_of_ble_eq_true rfl) rfl ?_
  refine hz_iconst (pc := 0) (v := nI 0) (hz_dec kX12_compareBig 0 rfl) (by decide) ?_
  refine hz_istoren (pc := 1) (i := 2) (lo2 := [(2, .int (nI 0)), (0, .ref b), (1, .ref b2)]) (hz_dec kX12_compareBig 1 rfl) rfl (by decide) rfl ?_
  refine hz_pick (pc := 2) [0, 1, 2] rfl ?_
  exact c_cmpB_l hM ha hz hn hM2 ha2 hz2 hn2 hr hr2 9 0 rfl (by omega) (fun j hj => absurd hj (by omega))
