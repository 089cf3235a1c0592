/-! transactions and blocks as bytes -/
def tx_sz (p q : Nat) : Nat := 2 + tx_oa p + q * 16
/-- the places of the first k inputs are places -/
def tx_pl (f : Nat → Int32) (at_ : Nat) : Nat → Bool
  | 0 => true
  | k + 1 => tx_pl f at_ k && decide (bb (f (at_ + 2 + k * 73 + 8)) < 4)
/-- how many bytes the transaction has that begins at a place and ends by e; 0: there is none -/
def tx_len (f : Nat → Int32) (at_ e : Nat) : Nat :=
  if e < at_ + 2 then 0 else if 4 < bb (f at_) ∨ bb (f (at_ + 1)) < 1 ∨ 4 < bb (f (at_ + 1)) then 0
  else if e < at_ + tx_sz (bb (f at_)) (bb (f (at_ + 1))) then 0 else if bb (f at_) = 0 ∧ 128 ≤ bb (f (at_ + 2)) then 0
  else if tx_pl f at_ (bb (f at_)) = true then tx_sz (bb (f at_)) (bb (f (at_ + 1))) else 0
theorem tx_pl_f {f : Nat → Int32} {at_ k : Nat} (h : 4 ≤ bb (f (at_ + 2 + k * 73 + 8))) : ∀ n, k < n → tx_pl f at_ n = false := by
  intro n
  induction n with
  | zero => intro q; omega
  | succ n ih =>
    intro q
    rcases Nat.lt_or_ge k n with r | r
    · simp [tx_pl, ih r]
    · have e : n = k := by omega
      subst e
      have h2 : ¬ bb (f (at_ + 2 + n * 73 + 8)) < 4 := by omega
      simp [tx_pl, h2]
theorem tx_0 {f : Nat → Int32} {at_ e : Nat} (h : e < at_ + 2) : tx_len f at_ e = 0 := by unfold tx_len; rw [if_pos h]
theorem tx_1 {f : Nat → Int32} {at_ e p q : Nat} (hp : bb (f at_) = p) (hq : bb (f (at_ + 1)) = q) (h : 4 < p ∨ q < 1 ∨ 4 < q) : tx_len f at_ e = 0 := by
  subst hp; subst hq
  unfold tx_len
  split
  · rfl
  · first | rfl | rw [if_pos h]
theorem tx_2 {f : Nat → Int32} {at_ e p q : Nat} (hp : bb (f at_) = p) (hq : bb (f (at_ + 1)) = q) (h : e < at_ + tx_sz p q) : tx_len f at_ e = 0 := by
  subst hp; subst hq
  unfold tx_len
  split
  · rfl
  · split
    · rfl
    · first | rfl | rw [if_pos h]
theorem tx_3 {f : Nat → Int32} {at_ e p : Nat} (hp : bb (f at_) = p) (h : p = 0 ∧ 128 ≤ bb (f (at_ + 2))) : tx_len f at_ e = 0 := by
  subst hp
  unfold tx_len
  split
  · rfl
  · split
    · rfl
    · split
      · rfl
      · first | rfl | rw [if_pos h]
theorem tx_4 {f : Nat → Int32} {at_ e p : Nat} (hp : bb (f at_) = p) (h : tx_pl f at_ p = false) : tx_len f at_ e = 0 := by
  subst hp
  unfold tx_len
  split
  · rfl
  · split
    · rfl
    · split
      · rfl
      · split
        · rfl
        · rw [if_neg (by rw [h]; decide)]
theorem tx_5 {f : Nat → Int32} {at_ e p q : Nat} (hp : bb (f at_) = p) (hq : bb (f (at_ + 1)) = q) (h0 : at_ + 2 ≤ e) (h1 : p ≤ 4 ∧ 1 ≤ q ∧ q ≤ 4) (h2 : at_ + tx_sz p q ≤ e) (h3 : p = 0 → bb (f (at_ + 2)) < 128) (h4 : tx_pl f at_ p = true) : tx_len f at_ e = tx_sz p q := by
  subst hp; subst hq
  unfold tx_len
  rw [if_neg (by omega), if_neg (by omega), if_neg (by omega), if_neg (fun q => by have := h3 q.1; omega), if_pos h4]
/-- a byte's sign -/
theorem by_sg : ∀ c, c < 256 → ((sb_b c < 0 ↔ 128 ≤ c) ∧ (c < 128 → sb_b c = nI c)) := by decide +kernel
theorem by_neg {a : Int32} (h : a.toInt8.toInt32 = a) : a < 0 ↔ 128 ≤ bb a := by
  have q := (by_sg (bb a) (bb_lt a)).1
  rwa [sb_bb h] at q
theorem by_pos {a : Int32} (h : a.toInt8.toInt32 = a) (h2 : bb a < 128) : a = nI (bb a) := by
  have q := (by_sg (bb a) (bb_lt a)).2 h2
  rwa [sb_bb h] at q
theorem tx_sz_le {p q : Nat} (hp : p ≤ 4) (hq : q ≤ 4) : tx_sz p q ≤ 358 := by
  unfold tx_sz tx_oa
  split <;> omega
theorem tx_len_le (f : Nat → Int32) (at_ e : Nat) : tx_len f at_ e ≤ 358 := by
  unfold tx_len
  split
  · omega
  · split
    · omega
    · next h => split
                · omega
                · split
                  · omega
                  · split
                    · exact tx_sz_le (by omega) (by omega)
                    · omega
theorem tx_len_e (f : Nat → Int32) (at_ e : Nat) : tx_len f at_ e = 0 ∨ at_ + tx_len f at_ e ≤ e := by
  unfold tx_len
  split
  · exact Or.inl rfl
  · split
    · exact Or.inl rfl
    · split
      · exact Or.inl rfl
      · next h => split
                  · exact Or.inl rfl
                  · split
                    · exact Or.inr (by omega)
                    · exact Or.inl rfl

set_option maxHeartbeats 4000000 in
set_option maxRecDepth 100000 in
theorem l_txl {κ : hz_C} {z : Nat} {M : hz_M} {b n : Nat} {f : Nat → Int32} (hM : M b = .inl (1, n, .inl f)) (ha : 8 ≤ b) (hz : b < z) (hn : n < 2 ^ 30) {at_ e : Nat} (he : e ≤ n) {p q : Nat} (hp : bb (f at_) = p) (hq : bb (f (at_ + 1)) = q) (h0 : at_ + 2 ≤ e) (h1 : p ≤ 4 ∧ 1 ≤ q ∧ q ≤ 4) (h2 : at_ + tx_sz p q ≤ e) (h3 : p = 0 → bb (f (at_ + 2)) < 128) : ∀ k i, k = p - i → i ≤ p → tx_pl f at_ i = true → hz_W κ xX0_transactionLength 0 0 0 (hz_ex (some (.int (nI (tx_len f at_ e)))) z M) 0 0 104 [(6, .int (nI i)), (5, .int (nI (tx_sz p q))), (3, .int (nI p)), (0, .ref b), (1, .int (nI at_))] [] z M := by
  intro k
  induction k using Nat.strongRecOn with
  | ind k ih =>
  intro i hk hi hpl
  refine hz_iload (pc := 104) 0 (hz_dec kX0_transactionLength 69 rfl) rfl ?_
  refine hz_iloadn (pc := 106) 2 (hz_dec kX0_transactionLength 70 rfl) rfl ?_
  refine hz_n_ge (pc := 107) (tgt := 140) (hz_dec kX0_transactionLength 71 rfl) (by decide) (by omega) (by omega) (fun h4 => ?_) (fun h4 => ?_)
  · skip
    have ei : i = p := by omega
    subst ei
    refine hz_iload (pc := 140) 1 (hz_dec kX0_transactionLength 91 rfl) rfl ?_
    exact hz_iret (pc := 142) (hz_dec kX0_transactionLength 92 rfl) rfl ⟨by rw [tx_5 hp hq h0 h1 h2 h3 hpl], rfl, rfl⟩
  · skip
    have hsz : i * 73 + 75 ≤ tx_sz p q := by unfold tx_sz tx_oa; split <;> omega
    refine hz_aloadn (pc := 110) 3 (hz_dec kX0_transactionLength 72 rfl) rfl ?_
    refine hz_iloadn (pc := 111) 4 (hz_dec kX0_transactionLength 73 rfl) rfl ?_
    refine hz_iconst (pc := 112) (v := nI 2) (hz_dec kX0_transactionLength 74 rfl) (by decide) ?_
    refine hz_addN (pc := 113) (hz_dec kX0_transactionLength 75 rfl) ?_
    refine hz_iload (pc := 114) 0 (hz_dec kX0_transactionLength 76 rfl) rfl ?_
    refine hz_bipush (pc := 116) (v := nI 73) (hz_dec kX0_transactionLength 77 rfl) (by decide) ?_
    refine hz_mulN (pc := 118) (hz_dec kX0_transactionLength 78 rfl) ?_
    refine hz_addN (pc := 119) (hz_dec kX0_transactionLength 79 rfl) ?_
    refine hz_bipush (pc := 120) (v := nI 8) (hz_dec kX0_transactionLength 80 rfl) (by decide) ?_
    refine hz_addN (pc := 122) (hz_dec kX0_transactionLength 81 rfl) ?_
    refine hz_bald (pc := 123) (j := ((at_ + 2) + (i * 73)) + 8) (hz_dec kX0_transactionLength 82 rfl) hM ha hz rfl (by omega) (by omega) ?_
    refine hz_sipush (pc := 124) (v := nI 255) (hz_dec kX0_transactionLength 83 rfl) (by decide) ?_
    refine hz_andB (pc := 127) (hz_dec kX0_transactionLength 84 rfl) ?_
    refine hz_iconst (pc := 128) (v := nI 4) (hz_dec kX0_transactionLength 85 rfl) (by decide) ?_
    refine hz_n_lt (pc := 129) (tgt := 134) (hz_dec kX0_transactionLength 86 rfl) (by decide) (by have := bb_lt (f (at_ + 2 + i * 73 + 8)); omega) (by omega) (fun h5 => ?_) (fun h5 => ?_)
    · skip
      refine hz_incN (pc := 134) (i := 6) (lo2 := [(6, .int (nI (i + 1))), (5, .int (nI (tx_sz p q))), (3, .int (nI p)), (0, .ref b), (1, .int (nI at_))]) 0 (hz_dec kX0_transactionLength 89 rfl) rfl (by decide) rfl ?_
      refine hz_goto (pc := 137) (tgt := 104) (hz_dec kX0_transactionLength 90 rfl) (by decide) ?_
      refine hz_pick (pc := 104) [0, 1, 2, 3, 4] rfl ?_
      exact ih (p - (i + 1)) (by omega) (i + 1) rfl (by omega) (by simp [tx_pl, hpl, h5])
    · skip
      refine hz_iconst (pc := 132) (v := nI 0) (hz_dec kX0_transactionLength 87 rfl) (by decide) ?_
      exact hz_iret (pc := 133) (hz_dec kX0_transactionLength 88 rfl) rfl ⟨by rw [tx_4 hp (tx_pl_f h5 p h4)], rfl, rfl⟩
set_option maxHeartbeats 4000000 in
set_option maxRecDepth 100000 in
theorem c_txl {κ : hz_C} {z : Nat} {M : hz_M} {b n : Nat} {f : Nat → Int32} (hM : M b = .inl (1, n, .inl f)) (ha : 8 ≤ b) (hz : b < z) (hn : n < 2 ^ 30) {at_ e : Nat} (he : e ≤ n) (hat : at_ < 2 ^ 30) : hz_Mt κ xX0_transactionLength 0 0 0 [.ref b, .int (nI at_), .int (nI e)] z M (hz_ex (some (.int (nI (tx_len f at_ e)))) z M) := by
  refine hz_ent (lo := [(0, .ref b), (1, .int (nI at_)), (2, .int (nI e))]) (by decide) (Nat.le_of_ble_eq_true rfl) rfl ?_
  refine hz_bytes hM ha hz (fun hby => ?_)
  refine hz_iloadn (pc := 0) 1 (hz_dec kX0_transactionLength 0 rfl) rfl ?_
  refine hz_z_lt (pc := 1) (tgt := 17) (hz_dec kX0_transactionLength 1 rfl) (by decide) (by omega) ?_
  refine hz_iloadn (pc := 4) 2 (hz_dec kX0_transactionLength 2 rfl) rfl ?_
  refine hz_aloadn (pc := 5) 0 (hz_dec kX0_transactionLength 3 rfl) rfl ?_
  refine hz_alen (pc := 6) (hz_dec kX0_transactionLength 4 rfl) hM (by decide) ha hz ?_
  refine hz_n_gt (pc := 7) (tgt := 17) (hz_dec kX0_transactionLength 5 rfl) (by decide) (by omega) (by omega) (fun h1 => ?_) (fun h1 => ?_)
  · skip
    exact absurd h1 (by omega)
  · skip
    refine hz_iloadn (pc := 10) 2 (hz_dec kX0_transactionLength 6 rfl) rfl ?_
    refine hz_iloadn (pc := 11) 1 (hz_dec kX0_transactionLength 7 rfl) rfl ?_
    rcases Nat.lt_or_ge e at_ with hlt | hge
    · refine hz_isub (pc := 12) (hz_dec kX0_transactionLength 8 rfl) ?_
      refine hz_iconst (pc := 13) (v := nI 2) (hz_dec kX0_transactionLength 9 rfl) (by decide) ?_
      refine hz_icmp_ge (pc := 14) (tgt := 19) (hz_dec kX0_transactionLength 10 rfl) (by decide) (fun h => absurd h ?_) (fun h => ?_)
      · exact fun h => by have q := Int32.le_iff_toInt_le.mp h; rw [pk_sub_toInt (by omega) (by omega), nI_toInt (by decide)] at q; omega
      refine hz_iconst (pc := 17) (v := nI 0) (hz_dec kX0_transactionLength 11 rfl) (by decide) ?_
      exact hz_iret (pc := 18) (hz_dec kX0_transactionLength 12 rfl) rfl ⟨by rw [tx_0 (by omega)], rfl, rfl⟩
    refine hz_subN (pc := 12) (hz_dec kX0_transactionLength 8 rfl) (by omega) ?_
    refine hz_iconst (pc := 13) (v := nI 2) (hz_dec kX0_transactionLength 9 rfl) (by decide) ?_
    refine hz_n_ge (pc := 14) (tgt := 19) (hz_dec kX0_transactionLength 10 rfl) (by decide) (by omega) (by omega) (fun h2 => ?_) (fun h2 => ?_)
    · skip
      refine hz_aloadn (pc := 19) 0 (hz_dec kX0_transactionLength 13 rfl) rfl ?_
      refine hz_iloadn (pc := 20) 1 (hz_dec kX0_transactionLength 14 rfl) rfl ?_
      refine hz_bald (pc := 21) (j := at_) (hz_dec kX0_transactionLength 15 rfl) hM ha hz rfl (by omega) (by omega) ?_
      refine hz_sipush (pc := 22) (v := nI 255) (hz_dec kX0_transactionLength 16 rfl) (by decide) ?_
      refine hz_andB (pc := 25) (hz_dec kX0_transactionLength 17 rfl) ?_
      generalize hp : bb (f at_) = p
      have hpl : p < 256 := hp ▸ bb_lt _
      refine hz_istoren (pc := 26) (i := 3) (lo2 := [(3, .int (nI p)), (0, .ref b), (1, .int (nI at_)), (2, .int (nI e))]) (hz_dec kX0_transactionLength 18 rfl) rfl (by decide) rfl ?_
      refine hz_aloadn (pc := 27) 1 (hz_dec kX0_transactionLength 19 rfl) rfl ?_
      refine hz_iloadn (pc := 28) 2 (hz_dec kX0_transactionLength 20 rfl) rfl ?_
      refine hz_iconst (pc := 29) (v := nI 1) (hz_dec kX0_transactionLength 21 rfl) (by decide) ?_
      refine hz_addN (pc := 30) (hz_dec kX0_transactionLength 22 rfl) ?_
      refine hz_bald (pc := 31) (j := at_ + 1) (hz_dec kX0_transactionLength 23 rfl) hM ha hz rfl (by omega) (by omega) ?_
      refine hz_sipush (pc := 32) (v := nI 255) (hz_dec kX0_transactionLength 24 rfl) (by decide) ?_
      refine hz_andB (pc := 35) (hz_dec kX0_transactionLength 25 rfl) ?_
      generalize hq : bb (f (at_ + 1)) = q
      have hql : q < 256 := hq ▸ bb_lt _
      refine hz_istore (pc := 36) (i := 4) (lo2 := [(4, .int (nI q)), (3, .int (nI p)), (0, .ref b), (1, .int (nI at_)), (2, .int (nI e))]) (hz_dec kX0_transactionLength 26 rfl) (by decide) rfl ?_
      refine hz_iloadn (pc := 38) 1 (hz_dec kX0_transactionLength 27 rfl) rfl ?_
      refine hz_iconst (pc := 39) (v := nI 4) (hz_dec kX0_transactionLength 28 rfl) (by decide) ?_
      refine hz_n_gt (pc := 40) (tgt := 55) (hz_dec kX0_transactionLength 29 rfl) (by decide) (by omega) (by omega) (fun h3 => ?_) (fun h3 => ?_)
      · skip
        refine hz_iconst (pc := 55) (v := nI 0) (hz_dec kX0_transactionLength 36 rfl) (by decide) ?_
        exact hz_iret (pc := 56) (hz_dec kX0_transactionLength 37 rfl) rfl ⟨by rw [tx_1 hp hq (by omega)], rfl, rfl⟩
      · skip
        refine hz_iload (pc := 43) 0 (hz_dec kX0_transactionLength 30 rfl) rfl ?_
        refine hz_iconst (pc := 45) (v := nI 1) (hz_dec kX0_transactionLength 31 rfl) (by decide) ?_
        refine hz_n_lt (pc := 46) (tgt := 55) (hz_dec kX0_transactionLength 32 rfl) (by decide) (by omega) (by omega) (fun h4 => ?_) (fun h4 => ?_)
        · skip
          refine hz_iconst (pc := 55) (v := nI 0) (hz_dec kX0_transactionLength 36 rfl) (by decide) ?_
          exact hz_iret (pc := 56) (hz_dec kX0_transactionLength 37 rfl) rfl ⟨by rw [tx_1 hp hq (by omega)], rfl, rfl⟩
        · skip
          refine hz_iload (pc := 49) 0 (hz_dec kX0_transactionLength 33 rfl) rfl ?_
          refine hz_iconst (pc := 51) (v := nI 4) (hz_dec kX0_transactionLength 34 rfl) (by decide) ?_
          refine hz_n_le (pc := 52) (tgt := 57) (hz_dec kX0_transactionLength 35 rfl) (by decide) (by omega) (by omega) (fun h5 => ?_) (fun h5 => ?_)
          · skip
            refine hz_iconst (pc := 57) (v := nI 2) (hz_dec kX0_transactionLength 38 rfl) (by decide) ?_
            refine hz_iloadn (pc := 58) 1 (hz_dec kX0_transactionLength 39 rfl) rfl ?_
            refine hz_z_ne (pc := 59) (tgt := 66) (hz_dec kX0_transactionLength 40 rfl) (by decide) (by omega) (fun h6 => ?_) (fun h6 => ?_)
            · skip
              refine hz_iloadn (pc := 66) 1 (hz_dec kX0_transactionLength 43 rfl) rfl ?_
              refine hz_bipush (pc := 67) (v := nI 73) (hz_dec kX0_transactionLength 44 rfl) (by decide) ?_
              refine hz_mulN (pc := 69) (hz_dec kX0_transactionLength 45 rfl) ?_
              refine hz_addN (pc := 70) (hz_dec kX0_transactionLength 46 rfl) ?_
              refine hz_iload (pc := 71) 0 (hz_dec kX0_transactionLength 47 rfl) rfl ?_
              refine hz_bipush (pc := 73) (v := nI 16) (hz_dec kX0_transactionLength 48 rfl) (by decide) ?_
              refine hz_mulN (pc := 75) (hz_dec kX0_transactionLength 49 rfl) ?_
              refine hz_addN (pc := 76) (hz_dec kX0_transactionLength 50 rfl) ?_
              rw [show (2 + (p * 73)) + (q * 16) = tx_sz p q by unfold tx_sz tx_oa; rw [if_neg (by omega)]]
              have hsz : tx_sz p q ≤ 358 := tx_sz_le (by omega) (by omega)
              have hsz3 : 6 ≤ tx_sz p q := by unfold tx_sz tx_oa; split <;> omega
              refine hz_istore (pc := 77) (i := 5) (lo2 := [(5, .int (nI (tx_sz p q))), (4, .int (nI q)), (3, .int (nI p)), (0, .ref b), (1, .int (nI at_)), (2, .int (nI e))]) (hz_dec kX0_transactionLength 51 rfl) (by decide) rfl ?_
              refine hz_iload (pc := 79) 0 (hz_dec kX0_transactionLength 52 rfl) rfl ?_
              refine hz_iloadn (pc := 81) 5 (hz_dec kX0_transactionLength 53 rfl) rfl ?_
              refine hz_iloadn (pc := 82) 4 (hz_dec kX0_transactionLength 54 rfl) rfl ?_
              refine hz_subN (pc := 83) (hz_dec kX0_transactionLength 55 rfl) (by omega) ?_
              refine hz_n_gt (pc := 84) (tgt := 99) (hz_dec kX0_transactionLength 56 rfl) (by decide) (by omega) (by omega) (fun h9 => ?_) (fun h9 => ?_)
              · skip
                refine hz_iconst (pc := 99) (v := nI 0) (hz_dec kX0_transactionLength 65 rfl) (by decide) ?_
                exact hz_iret (pc := 100) (hz_dec kX0_transactionLength 66 rfl) rfl ⟨by rw [tx_2 hp hq (by omega)], rfl, rfl⟩
              · skip
                refine hz_iloadn (pc := 87) 2 (hz_dec kX0_transactionLength 57 rfl) rfl ?_
                refine hz_z_ne (pc := 88) (tgt := 101) (hz_dec kX0_transactionLength 58 rfl) (by decide) (by omega) (fun h7 => ?_) (fun h7 => ?_)
                · skip
                  refine hz_iconst (pc := 101) (v := nI 0) (hz_dec kX0_transactionLength 67 rfl) (by decide) ?_
                  refine hz_istore (pc := 102) (i := 6) (lo2 := [(6, .int (nI 0)), (5, .int (nI (tx_sz p q))), (4, .int (nI q)), (3, .int (nI p)), (0, .ref b), (1, .int (nI at_)), (2, .int (nI e))]) (hz_dec kX0_transactionLength 68 rfl) (by decide) rfl ?_
                  refine hz_pick (pc := 104) [0, 1, 3, 4, 5] rfl ?_
                  exact l_txl hM ha hz hn he hp hq (by omega) (by omega) (by omega) (fun e0 => absurd e0 (by omega)) p 0 rfl (by omega) rfl
                · skip
                  exact absurd h7 (by omega)
            · skip
              refine hz_iconst (pc := 62) (v := nI 4) (hz_dec kX0_transactionLength 41 rfl) (by decide) ?_
              refine hz_goto (pc := 63) (tgt := 70) (hz_dec kX0_transactionLength 42 rfl) (by decide) ?_
              refine hz_addN (pc := 70) (hz_dec kX0_transactionLength 46 rfl) ?_
              refine hz_iload (pc := 71) 0 (hz_dec kX0_transactionLength 47 rfl) rfl ?_
              refine hz_bipush (pc := 73) (v := nI 16) (hz_dec kX0_transactionLength 48 rfl) (by decide) ?_
              refine hz_mulN (pc := 75) (hz_dec kX0_transactionLength 49 rfl) ?_
              refine hz_addN (pc := 76) (hz_dec kX0_transactionLength 50 rfl) ?_
              rw [show (2 + 4) + (q * 16) = tx_sz p q by unfold tx_sz tx_oa; rw [if_pos h6]]
              have hsz : tx_sz p q ≤ 358 := tx_sz_le (by omega) (by omega)
              have hsz3 : 6 ≤ tx_sz p q := by unfold tx_sz tx_oa; split <;> omega
              refine hz_istore (pc := 77) (i := 5) (lo2 := [(5, .int (nI (tx_sz p q))), (4, .int (nI q)), (3, .int (nI p)), (0, .ref b), (1, .int (nI at_)), (2, .int (nI e))]) (hz_dec kX0_transactionLength 51 rfl) (by decide) rfl ?_
              refine hz_iload (pc := 79) 0 (hz_dec kX0_transactionLength 52 rfl) rfl ?_
              refine hz_iloadn (pc := 81) 5 (hz_dec kX0_transactionLength 53 rfl) rfl ?_
              refine hz_iloadn (pc := 82) 4 (hz_dec kX0_transactionLength 54 rfl) rfl ?_
              refine hz_subN (pc := 83) (hz_dec kX0_transactionLength 55 rfl) (by omega) ?_
              refine hz_n_gt (pc := 84) (tgt := 99) (hz_dec kX0_transactionLength 56 rfl) (by decide) (by omega) (by omega) (fun h9 => ?_) (fun h9 => ?_)
              · skip
                refine hz_iconst (pc := 99) (v := nI 0) (hz_dec kX0_transactionLength 65 rfl) (by decide) ?_
                exact hz_iret (pc := 100) (hz_dec kX0_transactionLength 66 rfl) rfl ⟨by rw [tx_2 hp hq (by omega)], rfl, rfl⟩
              · skip
                refine hz_iloadn (pc := 87) 2 (hz_dec kX0_transactionLength 57 rfl) rfl ?_
                refine hz_z_ne (pc := 88) (tgt := 101) (hz_dec kX0_transactionLength 58 rfl) (by decide) (by omega) (fun h7 => ?_) (fun h7 => ?_)
                · skip
                  exact absurd h7 (by omega)
                · skip
                  refine hz_aloadn (pc := 91) 3 (hz_dec kX0_transactionLength 59 rfl) rfl ?_
                  refine hz_iloadn (pc := 92) 4 (hz_dec kX0_transactionLength 60 rfl) rfl ?_
                  refine hz_iconst (pc := 93) (v := nI 2) (hz_dec kX0_transactionLength 61 rfl) (by decide) ?_
                  refine hz_addN (pc := 94) (hz_dec kX0_transactionLength 62 rfl) ?_
                  refine hz_bald (pc := 95) (j := at_ + 2) (hz_dec kX0_transactionLength 63 rfl) hM ha hz rfl (by omega) (by omega) ?_
                  refine hz_if_ge (pc := 96) (tgt := 101) (hz_dec kX0_transactionLength 64 rfl) (by decide) (fun h8 => ?_) (fun h8 => ?_)
                  · skip
                    have h8b : bb (f (at_ + 2)) < 128 := by have q9 := by_neg (hby (at_ + 2) (by omega)); rcases Nat.lt_or_ge (bb (f (at_ + 2))) 128 with r | r; exact r; exact absurd (q9.mpr r) (Int32.not_lt.mpr h8)
                    refine hz_iconst (pc := 101) (v := nI 0) (hz_dec kX0_transactionLength 67 rfl) (by decide) ?_
                    refine hz_istore (pc := 102) (i := 6) (lo2 := [(6, .int (nI 0)), (5, .int (nI (tx_sz p q))), (4, .int (nI q)), (3, .int (nI p)), (0, .ref b), (1, .int (nI at_)), (2, .int (nI e))]) (hz_dec kX0_transactionLength 68 rfl) (by decide) rfl ?_
                    refine hz_pick (pc := 104) [0, 1, 3, 4, 5] rfl ?_
                    exact l_txl hM ha hz hn he hp hq (by omega) (by omega) (by omega) (fun _ => h8b) p 0 rfl (by omega) rfl
                  · skip
                    have h8b : 128 ≤ bb (f (at_ + 2)) := (by_neg (hby (at_ + 2) (by omega))).mp (Int32.not_le.mp h8)
                    refine hz_iconst (pc := 99) (v := nI 0) (hz_dec kX0_transactionLength 65 rfl) (by decide) ?_
                    exact hz_iret (pc := 100) (hz_dec kX0_transactionLength 66 rfl) rfl ⟨by rw [tx_3 hp ⟨h6, h8b⟩], rfl, rfl⟩
          · skip
            refine hz_iconst (pc := 55) (v := nI 0) (hz_dec kX0_transactionLength 36 rfl) (by decide) ?_
            exact hz_iret (pc := 56) (hz_dec kX0_transactionLength 37 rfl) rfl ⟨by rw [tx_1 hp hq (by omega)], rfl, rfl⟩
    · skip
      refine hz_iconst (pc := 17) (v := nI 0) (hz_dec kX0_transactionLength 11 rfl) (by decide) ?_
      exact hz_iret (pc := 18) (hz_dec kX0_transactionLength 12 rfl) rfl ⟨by rw [tx_0 (by omega)], rfl, rfl⟩
