/-- as the reference says it: -1 for none -/
def md_ts (f : Nat → Int32) (at_ l : Nat) : Int32 := if tx_len f at_ (at_ + l) = 0 then -1 else nI (tx_len f at_ (at_ + l))
theorem md_ts0 {f : Nat → Int32} {at_ l : Nat} (h : tx_len f at_ (at_ + l) = 0) : md_ts f at_ l = -1 := by unfold md_ts; rw [if_pos h]
theorem md_ts1 {f : Nat → Int32} {at_ l s : Nat} (h : tx_len f at_ (at_ + l) = s) (hs : s ≠ 0) : md_ts f at_ l = nI s := by unfold md_ts; rw [h, if_neg hs]

set_option maxHeartbeats 4000000 in
set_option maxRecDepth 100000 in
theorem l_mts {κ : hz_C} {z : Nat} {M : hz_M} {b n : Nat} {f : Nat → Int32} (hM : M b = .inl (1, n, .inl f)) (ha : 8 ≤ b) (hz : b < z) (hn : n < 2 ^ 30) {at_ l : Nat} (hl : at_ + l ≤ n) (hby : ∀ j, j < n → (f j).toInt8.toInt32 = f j) {p q : Nat} (hp : bb (f at_) = p) (hq : bb (f (at_ + 1)) = q) (h0 : 2 ≤ l) (h1 : p ≤ 4 ∧ 1 ≤ q ∧ q ≤ 4) (h2 : tx_sz p q ≤ l) (h3 : p = 0 → bb (f (at_ + 2)) < 128) : ∀ k i, k = p - i → i ≤ p → tx_pl f at_ i = true → hz_W κ xX12_transactionSize 0 0 0 (hz_ex (some (.int (md_ts f at_ l))) z M) 0 0 88 [(6, .int (nI i)), (5, .int (nI (tx_sz p q))), (3, .int (nI p)), (0, .ref b), (1, .int (nI at_))] [] z M := by
  intro k
  induction k using Nat.strongRecOn with
  | ind k ih =>
  intro i hk hi hpl
  refine hz_iload (pc := 88) 0 (hz_dec kX12_transactionSize 59 rfl) rfl ?_
  refine hz_iloadn (pc := 90) 2 (hz_dec kX12_transactionSize 60 rfl) rfl ?_
  refine hz_n_ge (pc := 91) (tgt := 129) (hz_dec kX12_transactionSize 61 rfl) (by decide) (by omega) (by omega) (fun h4 => ?_) (fun h4 => ?_)
  · skip
    have ei : i = p := by omega
    subst ei
    refine hz_iload (pc := 129) 1 (hz_dec kX12_transactionSize 83 rfl) rfl ?_
    exact hz_iret (pc := 131) (hz_dec kX12_transactionSize 84 rfl) rfl ⟨by rw [md_ts1 (tx_5 hp hq (by omega) h1 (by omega) h3 hpl) (by unfold tx_sz; omega)], rfl, rfl⟩
  · skip
    have hsz : 73 * i + 75 ≤ tx_sz p q := by unfold tx_sz tx_oa; split <;> omega
    have e73 : at_ + 2 + i * 73 + 8 = at_ + 2 + 73 * i + 8 := by omega
    refine hz_aloadn (pc := 94) 3 (hz_dec kX12_transactionSize 62 rfl) rfl ?_
    refine hz_iloadn (pc := 95) 4 (hz_dec kX12_transactionSize 63 rfl) rfl ?_
    refine hz_iconst (pc := 96) (v := nI 2) (hz_dec kX12_transactionSize 64 rfl) (by decide) ?_
    refine hz_addN (pc := 97) (hz_dec kX12_transactionSize 65 rfl) ?_
    refine hz_bipush (pc := 98) (v := nI 73) (hz_dec kX12_transactionSize 66 rfl) (by decide) ?_
    refine hz_iload (pc := 100) 0 (hz_dec kX12_transactionSize 67 rfl) rfl ?_
    refine hz_mulN (pc := 102) (hz_dec kX12_transactionSize 68 rfl) ?_
    refine hz_addN (pc := 103) (hz_dec kX12_transactionSize 69 rfl) ?_
    refine hz_bipush (pc := 104) (v := nI 8) (hz_dec kX12_transactionSize 70 rfl) (by decide) ?_
    refine hz_addN (pc := 106) (hz_dec kX12_transactionSize 71 rfl) ?_
    refine hz_bald (pc := 107) (j := ((at_ + 2) + (73 * i)) + 8) (hz_dec kX12_transactionSize 72 rfl) hM ha hz rfl (by omega) (by omega) ?_
    have hB9 := hby (at_ + 2 + 73 * i + 8) (by omega)
    rcases Nat.lt_or_ge (bb (f (at_ + 2 + 73 * i + 8))) 128 with hlt | hge
    · refine hz_eqi (pc := 108) (by_pos hB9 hlt) ?_
      refine hz_istore (pc := 108) (i := 7) (lo2 := [(7, .int (nI (bb (f (at_ + 2 + 73 * i + 8))))), (6, .int (nI i)), (5, .int (nI (tx_sz p q))), (3, .int (nI p)), (0, .ref b), (1, .int (nI at_))]) (hz_dec kX12_transactionSize 73 rfl) (by decide) rfl ?_
      refine hz_iload (pc := 110) 0 (hz_dec kX12_transactionSize 74 rfl) rfl ?_
      refine hz_z_lt (pc := 112) (tgt := 121) (hz_dec kX12_transactionSize 75 rfl) (by decide) (by omega) ?_
      refine hz_iload (pc := 115) 0 (hz_dec kX12_transactionSize 76 rfl) rfl ?_
      refine hz_iconst (pc := 117) (v := nI 3) (hz_dec kX12_transactionSize 77 rfl) (by decide) ?_
      refine hz_n_le (pc := 118) (tgt := 123) (hz_dec kX12_transactionSize 78 rfl) (by decide) (by omega) (by omega) (fun h6 => ?_) (fun h6 => ?_)
      · skip
        refine hz_incN (pc := 123) (i := 6) (lo2 := [(6, .int (nI (i + 1))), (7, .int (nI (bb (f (at_ + 2 + 73 * i + 8))))), (5, .int (nI (tx_sz p q))), (3, .int (nI p)), (0, .ref b), (1, .int (nI at_))]) 1 (hz_dec kX12_transactionSize 81 rfl) rfl (by decide) rfl ?_
        refine hz_goto (pc := 126) (tgt := 88) (hz_dec kX12_transactionSize 82 rfl) (by decide) ?_
        refine hz_pick (pc := 88) [0, 2, 3, 4, 5] rfl ?_
        have h7 : bb (f (at_ + 2 + i * 73 + 8)) < 4 := by rw [e73]; omega
        exact ih (p - (i + 1)) (by omega) (i + 1) rfl (by omega) (by simp [tx_pl, hpl, h7])
      · skip
        refine hz_iconst (pc := 121) (v := (-1)) (hz_dec kX12_transactionSize 79 rfl) (by decide) ?_
        exact hz_iret (pc := 122) (hz_dec kX12_transactionSize 80 rfl) rfl ⟨by rw [md_ts0 (tx_4 hp (tx_pl_f (k := i) (by rw [e73]; omega) p h4))], rfl, rfl⟩
    · have hneg := (by_neg hB9).mpr hge
      refine hz_istore (pc := 108) (i := 7) (lo2 := [(7, .int (f (at_ + 2 + 73 * i + 8))), (6, .int (nI i)), (5, .int (nI (tx_sz p q))), (3, .int (nI p)), (0, .ref b), (1, .int (nI at_))]) (hz_dec kX12_transactionSize 73 rfl) (by decide) rfl ?_
      refine hz_iload (pc := 110) 0 (hz_dec kX12_transactionSize 74 rfl) rfl ?_
      refine hz_if_lt (pc := 112) (tgt := 121) (hz_dec kX12_transactionSize 75 rfl) (by decide) (fun h5 => ?_) (fun h5 => ?_)
      · skip
        refine hz_iconst (pc := 121) (v := (-1)) (hz_dec kX12_transactionSize 79 rfl) (by decide) ?_
        exact hz_iret (pc := 122) (hz_dec kX12_transactionSize 80 rfl) rfl ⟨by rw [md_ts0 (tx_4 hp (tx_pl_f (k := i) (by rw [e73]; omega) p h4))], rfl, rfl⟩
      · skip
        exact absurd hneg h5
set_option maxHeartbeats 4000000 in
set_option maxRecDepth 100000 in
theorem c_mts {κ : hz_C} {z : Nat} {M : hz_M} {b n : Nat} {f : Nat → Int32} (hM : M b = .inl (1, n, .inl f)) (ha : 8 ≤ b) (hz : b < z) (hn : n < 2 ^ 30) {at_ l : Nat} (hl : at_ + l ≤ n) : hz_Mt κ xX12_transactionSize 0 0 0 [.ref b, .int (nI at_), .int (nI l)] z M (hz_ex (some (.int (md_ts f at_ l))) z M) := by
  refine hz_ent (lo := [(0, .ref b), (1, .int (nI at_)), (2, .int (nI l))]) (by decide) (Nat.le_of_ble_eq_true rfl) rfl ?_
  refine hz_bytes hM ha hz (fun hby => ?_)
  refine hz_iloadn (pc := 0) 2 (hz_dec kX12_transactionSize 0 rfl) rfl ?_
  refine hz_iconst (pc := 1) (v := nI 2) (hz_dec kX12_transactionSize 1 rfl) (by decide) ?_
  refine hz_n_ge (pc := 2) (tgt := 7) (hz_dec kX12_transactionSize 2 rfl) (by decide) (by omega) (by omega) (fun h2 => ?_) (fun h2 => ?_)
  · skip
    refine hz_aloadn (pc := 7) 0 (hz_dec kX12_transactionSize 5 rfl) rfl ?_
    refine hz_iloadn (pc := 8) 1 (hz_dec kX12_transactionSize 6 rfl) rfl ?_
    refine hz_bald (pc := 9) (j := at_) (hz_dec kX12_transactionSize 7 rfl) hM ha hz rfl (by omega) (by omega) ?_
    have hb0 := hby at_ (by omega)
    have hb1 := hby (at_ + 1) (by omega)
    generalize hp : bb (f at_) = p
    have hpl : p < 256 := hp ▸ bb_lt _
    generalize hq : bb (f (at_ + 1)) = q
    have hql : q < 256 := hq ▸ bb_lt _
    rcases Nat.lt_or_ge p 128 with hp8 | hp8
    · refine hz_eqi (pc := 10) ((by_pos hb0 (by omega)).trans (by rw [hp])) ?_
      refine hz_istoren (pc := 10) (i := 3) (lo2 := [(3, .int (nI p)), (0, .ref b), (1, .int (nI at_)), (2, .int (nI l))]) (hz_dec kX12_transactionSize 8 rfl) rfl (by decide) rfl ?_
      refine hz_aloadn (pc := 11) 1 (hz_dec kX12_transactionSize 9 rfl) rfl ?_
      refine hz_iloadn (pc := 12) 2 (hz_dec kX12_transactionSize 10 rfl) rfl ?_
      refine hz_iconst (pc := 13) (v := nI 1) (hz_dec kX12_transactionSize 11 rfl) (by decide) ?_
      refine hz_addN (pc := 14) (hz_dec kX12_transactionSize 12 rfl) ?_
      refine hz_bald (pc := 15) (j := at_ + 1) (hz_dec kX12_transactionSize 13 rfl) hM ha hz rfl (by omega) (by omega) ?_
      rcases Nat.lt_or_ge q 128 with hq8 | hq8
      · refine hz_eqi (pc := 16) ((by_pos hb1 (by omega)).trans (by rw [hq])) ?_
        refine hz_istore (pc := 16) (i := 4) (lo2 := [(4, .int (nI q)), (3, .int (nI p)), (0, .ref b), (1, .int (nI at_)), (2, .int (nI l))]) (hz_dec kX12_transactionSize 14 rfl) (by decide) rfl ?_
        refine hz_iloadn (pc := 18) 1 (hz_dec kX12_transactionSize 15 rfl) rfl ?_
        refine hz_z_lt (pc := 19) (tgt := 39) (hz_dec kX12_transactionSize 16 rfl) (by decide) (by omega) ?_
        refine hz_iloadn (pc := 22) 1 (hz_dec kX12_transactionSize 17 rfl) rfl ?_
        refine hz_iconst (pc := 23) (v := nI 4) (hz_dec kX12_transactionSize 18 rfl) (by decide) ?_
        refine hz_n_gt (pc := 24) (tgt := 39) (hz_dec kX12_transactionSize 19 rfl) (by decide) (by omega) (by omega) (fun h4 => ?_) (fun h4 => ?_)
        · skip
          refine hz_iconst (pc := 39) (v := (-1)) (hz_dec kX12_transactionSize 26 rfl) (by decide) ?_
          exact hz_iret (pc := 40) (hz_dec kX12_transactionSize 27 rfl) rfl ⟨by rw [md_ts0 (tx_1 hp hq (by omega))], rfl, rfl⟩
        · skip
          refine hz_iload (pc := 27) 0 (hz_dec kX12_transactionSize 20 rfl) rfl ?_
          refine hz_iconst (pc := 29) (v := nI 1) (hz_dec kX12_transactionSize 21 rfl) (by decide) ?_
          refine hz_n_lt (pc := 30) (tgt := 39) (hz_dec kX12_transactionSize 22 rfl) (by decide) (by omega) (by omega) (fun h5 => ?_) (fun h5 => ?_)
          · skip
            refine hz_iconst (pc := 39) (v := (-1)) (hz_dec kX12_transactionSize 26 rfl) (by decide) ?_
            exact hz_iret (pc := 40) (hz_dec kX12_transactionSize 27 rfl) rfl ⟨by rw [md_ts0 (tx_1 hp hq (by omega))], rfl, rfl⟩
          · skip
            refine hz_iload (pc := 33) 0 (hz_dec kX12_transactionSize 23 rfl) rfl ?_
            refine hz_iconst (pc := 35) (v := nI 4) (hz_dec kX12_transactionSize 24 rfl) (by decide) ?_
            refine hz_n_le (pc := 36) (tgt := 41) (hz_dec kX12_transactionSize 25 rfl) (by decide) (by omega) (by omega) (fun h6 => ?_) (fun h6 => ?_)
            · skip
              refine hz_iconst (pc := 41) (v := nI 2) (hz_dec kX12_transactionSize 28 rfl) (by decide) ?_
              refine hz_iloadn (pc := 42) 1 (hz_dec kX12_transactionSize 29 rfl) rfl ?_
              refine hz_z_ne (pc := 43) (tgt := 50) (hz_dec kX12_transactionSize 30 rfl) (by decide) (by omega) (fun h7 => ?_) (fun h7 => ?_)
              · skip
                refine hz_iconst (pc := 50) (v := nI 0) (hz_dec kX12_transactionSize 33 rfl) (by decide) ?_
                refine hz_addN (pc := 51) (hz_dec kX12_transactionSize 34 rfl) ?_
                refine hz_bipush (pc := 52) (v := nI 73) (hz_dec kX12_transactionSize 35 rfl) (by decide) ?_
                refine hz_iloadn (pc := 54) 1 (hz_dec kX12_transactionSize 36 rfl) rfl ?_
                refine hz_mulN (pc := 55) (hz_dec kX12_transactionSize 37 rfl) ?_
                refine hz_addN (pc := 56) (hz_dec kX12_transactionSize 38 rfl) ?_
                refine hz_bipush (pc := 57) (v := nI 16) (hz_dec kX12_transactionSize 39 rfl) (by decide) ?_
                refine hz_iload (pc := 59) 0 (hz_dec kX12_transactionSize 40 rfl) rfl ?_
                refine hz_mulN (pc := 61) (hz_dec kX12_transactionSize 41 rfl) ?_
                refine hz_addN (pc := 62) (hz_dec kX12_transactionSize 42 rfl) ?_
                rw [show ((2 + 0) + (73 * p)) + (16 * q) = tx_sz p q by unfold tx_sz tx_oa; rw [if_neg (by omega)]; omega]
                have hsz : tx_sz p q ≤ 358 := tx_sz_le (by omega) (by omega)
                have hsz3 : 6 ≤ tx_sz p q := by unfold tx_sz tx_oa; split <;> omega
                refine hz_istore (pc := 63) (i := 5) (lo2 := [(5, .int (nI (tx_sz p q))), (4, .int (nI q)), (3, .int (nI p)), (0, .ref b), (1, .int (nI at_)), (2, .int (nI l))]) (hz_dec kX12_transactionSize 43 rfl) (by decide) rfl ?_
                refine hz_iloadn (pc := 65) 5 (hz_dec kX12_transactionSize 44 rfl) rfl ?_
                refine hz_iload (pc := 66) 0 (hz_dec kX12_transactionSize 45 rfl) rfl ?_
                refine hz_n_lt (pc := 68) (tgt := 83) (hz_dec kX12_transactionSize 46 rfl) (by decide) (by omega) (by omega) (fun h9 => ?_) (fun h9 => ?_)
                · skip
                  refine hz_iconst (pc := 83) (v := (-1)) (hz_dec kX12_transactionSize 55 rfl) (by decide) ?_
                  exact hz_iret (pc := 84) (hz_dec kX12_transactionSize 56 rfl) rfl ⟨by rw [md_ts0 (tx_2 hp hq (by omega))], rfl, rfl⟩
                · skip
                  refine hz_iloadn (pc := 71) 2 (hz_dec kX12_transactionSize 47 rfl) rfl ?_
                  refine hz_z_ne (pc := 72) (tgt := 85) (hz_dec kX12_transactionSize 48 rfl) (by decide) (by omega) (fun h10 => ?_) (fun h10 => ?_)
                  · skip
                    refine hz_iconst (pc := 85) (v := nI 0) (hz_dec kX12_transactionSize 57 rfl) (by decide) ?_
                    refine hz_istore (pc := 86) (i := 6) (lo2 := [(6, .int (nI 0)), (5, .int (nI (tx_sz p q))), (4, .int (nI q)), (3, .int (nI p)), (0, .ref b), (1, .int (nI at_)), (2, .int (nI l))]) (hz_dec kX12_transactionSize 58 rfl) (by decide) rfl ?_
                    refine hz_pick (pc := 88) [0, 1, 3, 4, 5] rfl ?_
                    exact l_mts hM ha hz hn hl hby hp hq (by omega) (by omega) (by omega) (fun e0 => absurd e0 (by omega)) p 0 rfl (by omega) rfl
                  · skip
                    exact absurd h10 (by omega)
              · skip
                refine hz_iconst (pc := 46) (v := nI 4) (hz_dec kX12_transactionSize 31 rfl) (by decide) ?_
                refine hz_goto (pc := 47) (tgt := 51) (hz_dec kX12_transactionSize 32 rfl) (by decide) ?_
                refine hz_addN (pc := 51) (hz_dec kX12_transactionSize 34 rfl) ?_
                refine hz_bipush (pc := 52) (v := nI 73) (hz_dec kX12_transactionSize 35 rfl) (by decide) ?_
                refine hz_iloadn (pc := 54) 1 (hz_dec kX12_transactionSize 36 rfl) rfl ?_
                refine hz_mulN (pc := 55) (hz_dec kX12_transactionSize 37 rfl) ?_
                refine hz_addN (pc := 56) (hz_dec kX12_transactionSize 38 rfl) ?_
                refine hz_bipush (pc := 57) (v := nI 16) (hz_dec kX12_transactionSize 39 rfl) (by decide) ?_
                refine hz_iload (pc := 59) 0 (hz_dec kX12_transactionSize 40 rfl) rfl ?_
                refine hz_mulN (pc := 61) (hz_dec kX12_transactionSize 41 rfl) ?_
                refine hz_addN (pc := 62) (hz_dec kX12_transactionSize 42 rfl) ?_
                rw [show ((2 + 4) + (73 * p)) + (16 * q) = tx_sz p q by unfold tx_sz tx_oa; rw [if_pos h7]; subst h7; omega]
                have hsz : tx_sz p q ≤ 358 := tx_sz_le (by omega) (by omega)
                have hsz3 : 6 ≤ tx_sz p q := by unfold tx_sz tx_oa; split <;> omega
                refine hz_istore (pc := 63) (i := 5) (lo2 := [(5, .int (nI (tx_sz p q))), (4, .int (nI q)), (3, .int (nI p)), (0, .ref b), (1, .int (nI at_)), (2, .int (nI l))]) (hz_dec kX12_transactionSize 43 rfl) (by decide) rfl ?_
                refine hz_iloadn (pc := 65) 5 (hz_dec kX12_transactionSize 44 rfl) rfl ?_
                refine hz_iload (pc := 66) 0 (hz_dec kX12_transactionSize 45 rfl) rfl ?_
                refine hz_n_lt (pc := 68) (tgt := 83) (hz_dec kX12_transactionSize 46 rfl) (by decide) (by omega) (by omega) (fun h9 => ?_) (fun h9 => ?_)
                · skip
                  refine hz_iconst (pc := 83) (v := (-1)) (hz_dec kX12_transactionSize 55 rfl) (by decide) ?_
                  exact hz_iret (pc := 84) (hz_dec kX12_transactionSize 56 rfl) rfl ⟨by rw [md_ts0 (tx_2 hp hq (by omega))], rfl, rfl⟩
                · skip
                  refine hz_iloadn (pc := 71) 2 (hz_dec kX12_transactionSize 47 rfl) rfl ?_
                  refine hz_z_ne (pc := 72) (tgt := 85) (hz_dec kX12_transactionSize 48 rfl) (by decide) (by omega) (fun h10 => ?_) (fun h10 => ?_)
                  · skip
                    exact absurd h10 (by omega)
                  · skip
                    refine hz_aloadn (pc := 75) 3 (hz_dec kX12_transactionSize 49 rfl) rfl ?_
                    refine hz_iloadn (pc := 76) 4 (hz_dec kX12_transactionSize 50 rfl) rfl ?_
                    refine hz_iconst (pc := 77) (v := nI 2) (hz_dec kX12_transactionSize 51 rfl) (by decide) ?_
                    refine hz_addN (pc := 78) (hz_dec kX12_transactionSize 52 rfl) ?_
                    refine hz_bald (pc := 79) (j := at_ + 2) (hz_dec kX12_transactionSize 53 rfl) hM ha hz rfl (by omega) (by omega) ?_
                    refine hz_if_ge (pc := 80) (tgt := 85) (hz_dec kX12_transactionSize 54 rfl) (by decide) (fun h8 => ?_) (fun h8 => ?_)
                    · skip
                      have h8b : bb (f (at_ + 2)) < 128 := by have q9 := by_neg (hby (at_ + 2) (by omega)); rcases Nat.lt_or_ge (bb (f (at_ + 2))) 128 with r | r; exact r; exact absurd (q9.mpr r) (Int32.not_lt.mpr h8)
                      refine hz_iconst (pc := 85) (v := nI 0) (hz_dec kX12_transactionSize 57 rfl) (by decide) ?_
                      refine hz_istore (pc := 86) (i := 6) (lo2 := [(6, .int (nI 0)), (5, .int (nI (tx_sz p q))), (4, .int (nI q)), (3, .int (nI p)), (0, .ref b), (1, .int (nI at_)), (2, .int (nI l))]) (hz_dec kX12_transactionSize 58 rfl) (by decide) rfl ?_
                      refine hz_pick (pc := 88) [0, 1, 3, 4, 5] rfl ?_
                      exact l_mts hM ha hz hn hl hby hp hq (by omega) (by omega) (by omega) (fun _ => h8b) p 0 rfl (by omega) rfl
                    · skip
                      have h8b : 128 ≤ bb (f (at_ + 2)) := (by_neg (hby (at_ + 2) (by omega))).mp (Int32.not_le.mp h8)
                      refine hz_iconst (pc := 83) (v := (-1)) (hz_dec kX12_transactionSize 55 rfl) (by decide) ?_
                      exact hz_iret (pc := 84) (hz_dec kX12_transactionSize 56 rfl) rfl ⟨by rw [md_ts0 (tx_3 hp ⟨h7, h8b⟩)], rfl, rfl⟩
            · skip
              refine hz_iconst (pc := 39) (v := (-1)) (hz_dec kX12_transactionSize 26 rfl) (by decide) ?_
              exact hz_iret (pc := 40) (hz_dec kX12_transactionSize 27 rfl) rfl ⟨by rw [md_ts0 (tx_1 hp hq (by omega))], rfl, rfl⟩
      · have hneg := (by_neg hb1).mpr (by omega)
        refine hz_istore (pc := 16) (i := 4) (lo2 := [(4, .int (f (at_ + 1))), (3, .int (nI p)), (0, .ref b), (1, .int (nI at_)), (2, .int (nI l))]) (hz_dec kX12_transactionSize 14 rfl) (by decide) rfl ?_
        refine hz_iloadn (pc := 18) 1 (hz_dec kX12_transactionSize 15 rfl) rfl ?_
        refine hz_z_lt (pc := 19) (tgt := 39) (hz_dec kX12_transactionSize 16 rfl) (by decide) (by omega) ?_
        refine hz_iloadn (pc := 22) 1 (hz_dec kX12_transactionSize 17 rfl) rfl ?_
        refine hz_iconst (pc := 23) (v := nI 4) (hz_dec kX12_transactionSize 18 rfl) (by decide) ?_
        refine hz_n_gt (pc := 24) (tgt := 39) (hz_dec kX12_transactionSize 19 rfl) (by decide) (by omega) (by omega) (fun h4 => ?_) (fun h4 => ?_)
        · skip
          refine hz_iconst (pc := 39) (v := (-1)) (hz_dec kX12_transactionSize 26 rfl) (by decide) ?_
          exact hz_iret (pc := 40) (hz_dec kX12_transactionSize 27 rfl) rfl ⟨by rw [md_ts0 (tx_1 hp hq (by omega))], rfl, rfl⟩
        · skip
          refine hz_iload (pc := 27) 0 (hz_dec kX12_transactionSize 20 rfl) rfl ?_
          refine hz_iconst (pc := 29) (v := nI 1) (hz_dec kX12_transactionSize 21 rfl) (by decide) ?_
          refine hz_icmp_lt (pc := 30) (tgt := 39) (hz_dec kX12_transactionSize 22 rfl) (by decide) (fun h5 => ?_) (fun h5 => ?_)
          · skip
            refine hz_iconst (pc := 39) (v := (-1)) (hz_dec kX12_transactionSize 26 rfl) (by decide) ?_
            exact hz_iret (pc := 40) (hz_dec kX12_transactionSize 27 rfl) rfl ⟨by rw [md_ts0 (tx_1 hp hq (by omega))], rfl, rfl⟩
          · skip
            exact absurd (Int32.lt_trans hneg (by decide)) h5
    · have hneg := (by_neg hb0).mpr (by omega)
      refine hz_istoren (pc := 10) (i := 3) (lo2 := [(3, .int (f at_)), (0, .ref b), (1, .int (nI at_)), (2, .int (nI l))]) (hz_dec kX12_transactionSize 8 rfl) rfl (by decide) rfl ?_
      refine hz_aloadn (pc := 11) 1 (hz_dec kX12_transactionSize 9 rfl) rfl ?_
      refine hz_iloadn (pc := 12) 2 (hz_dec kX12_transactionSize 10 rfl) rfl ?_
      refine hz_iconst (pc := 13) (v := nI 1) (hz_dec kX12_transactionSize 11 rfl) (by decide) ?_
      refine hz_addN (pc := 14) (hz_dec kX12_transactionSize 12 rfl) ?_
      refine hz_bald (pc := 15) (j := at_ + 1) (hz_dec kX12_transactionSize 13 rfl) hM ha hz rfl (by omega) (by omega) ?_
      refine hz_istore (pc := 16) (i := 4) (lo2 := [(4, .int (f (at_ + 1))), (3, .int (f at_)), (0, .ref b), (1, .int (nI at_)), (2, .int (nI l))]) (hz_dec kX12_transactionSize 14 rfl) (by decide) rfl ?_
      refine hz_iloadn (pc := 18) 1 (hz_dec kX12_transactionSize 15 rfl) rfl ?_
      refine hz_if_lt (pc := 19) (tgt := 39) (hz_dec kX12_transactionSize 16 rfl) (by decide) (fun h3 => ?_) (fun h3 => ?_)
      · skip
        refine hz_iconst (pc := 39) (v := (-1)) (hz_dec kX12_transactionSize 26 rfl) (by decide) ?_
        exact hz_iret (pc := 40) (hz_dec kX12_transactionSize 27 rfl) rfl ⟨by rw [md_ts0 (tx_1 hp hq (by omega))], rfl, rfl⟩
      · skip
        exact absurd hneg h3
  · skip
    refine hz_iconst (pc := 5) (v := (-1)) (hz_dec kX12_transactionSize 3 rfl) (by decide) ?_
    exact hz_iret (pc := 6) (hz_dec kX12_transactionSize 4 rfl) rfl ⟨by rw [md_ts0 (tx_0 (by omega))], rfl, rfl⟩
set_option maxHeartbeats 4000000 in
set_option maxRecDepth 100000 in
theorem c_minputsOf {κ : hz_C} {z : Nat} {M : hz_M} {b n : Nat} {f : Nat → Int32} (hM : M b = .inl (1, n, .inl f)) (ha : 8 ≤ b) (hz : b < z) (hn : n < 2 ^ 30) {at_ : Nat} (hl : at_ < n) : hz_Mt κ xX12_inputsOf 0 0 0 [.ref b, .int (nI at_)] z M (hz_ex (some (.int (f at_))) z M) := by
  refine hz_ent (lo := [(0, .ref b), (1, .int (nI at_))]) (by decide) (Nat.le_of_ble_eq_true rfl) rfl ?_
  refine hz_aloadn (pc := 0) 0 (hz_dec kX12_inputsOf 0 rfl) rfl ?_
  refine hz_iloadn (pc := 1) 1 (hz_dec kX12_inputsOf 1 rfl) rfl ?_
  refine hz_bald (pc := 2) (j := at_) (hz_dec kX12_inputsOf 2 rfl) hM ha hz rfl (by omega) (by omega) ?_
  exact hz_iret (pc := 3) (hz_dec kX12_inputsOf 3 rfl) rfl ⟨rfl, rfl, rfl⟩
set_option maxHeartbeats 4000000 in
set_option maxRecDepth 100000 in
theorem c_moutputsOf {κ : hz_C} {z : Nat} {M : hz_M} {b n : Nat} {f : Nat → Int32} (hM : M b = .inl (1, n, .inl f)) (ha : 8 ≤ b) (hz : b < z) (hn : n < 2 ^ 30) {at_ : Nat} (hl : at_ + 1 < n) : hz_Mt κ xX12_outputsOf 0 0 0 [.ref b, .int (nI at_)] z M (hz_ex (some (.int (f (at_ + 1)))) z M) := by
  refine hz_ent (lo := [(0, .ref b), (1, .int (nI at_))]) (by decide) (Nat.le_of_ble_eq_true rfl) rfl ?_
  refine hz_aloadn (pc := 0) 0 (hz_dec kX12_outputsOf 0 rfl) rfl ?_
  refine hz_iloadn (pc := 1) 1 (hz_dec kX12_outputsOf 1 rfl) rfl ?_
  refine hz_iconst (pc := 2) (v := nI 1) (hz_dec kX12_outputsOf 2 rfl) (by decide) ?_
  refine hz_addN (pc := 3) (hz_dec kX12_outputsOf 3 rfl) ?_
  refine hz_bald (pc := 4) (j := at_ + 1) (hz_dec kX12_outputsOf 4 rfl) hM ha hz rfl (by omega) (by omega) ?_
  exact hz_iret (pc := 5) (hz_dec kX12_outputsOf 5 rfl) rfl ⟨rfl, rfl, rfl⟩
set_option maxHeartbeats 4000000 in
set_option maxRecDepth 100000 in
theorem c_minputAt {κ : hz_C} {z : Nat} {M : hz_M} {b at_ k : Nat} : hz_Mt κ xX12_inputAt 0 0 0 [.ref b, .int (nI at_), .int (nI k)] z M (hz_ex (some (.int (nI (at_ + 2 + 73 * k)))) z M) := by
  refine hz_ent (lo := [(0, .ref b), (1, .int (nI at_)), (2, .int (nI k))]) (by decide) (Nat.le_of_ble_eq_true rfl) rfl ?_
  refine hz_iloadn (pc := 0) 1 (hz_dec kX12_inputAt 0 rfl) rfl ?_
  refine hz_iconst (pc := 1) (v := nI 2) (hz_dec kX12_inputAt 1 rfl) (by decide) ?_
  refine hz_addN (pc := 2) (hz_dec kX12_inputAt 2 rfl) ?_
  refine hz_bipush (pc := 3) (v := nI 73) (hz_dec kX12_inputAt 3 rfl) (by decide) ?_
  refine hz_iloadn (pc := 5) 2 (hz_dec kX12_inputAt 4 rfl) rfl ?_
  refine hz_mulN (pc := 6) (hz_dec kX12_inputAt 5 rfl) ?_
  refine hz_addN (pc := 7) (hz_dec kX12_inputAt 6 rfl) ?_
  exact hz_iret (pc := 8) (hz_dec kX12_inputAt 7 rfl) rfl ⟨rfl, rfl, rfl⟩
set_option maxHeartbeats 4000000 in
set_option maxRecDepth 100000 in
theorem c_moutputAt {κ : hz_C} {z : Nat} {M : hz_M} {b n : Nat} {f : Nat → Int32} (hM : M b = .inl (1, n, .inl f)) (ha : 8 ≤ b) (hz : b < z) (hn : n < 2 ^ 30) {at_ k : Nat} (hl : at_ < n) (hp : bb (f at_) ≤ 4) : hz_Mt κ xX12_outputAt 0 0 0 [.ref b, .int (nI at_), .int (nI k)] z M (hz_ex (some (.int (nI (at_ + 2 + tx_oa (bb (f at_)) + k * 16)))) z M) := by
  refine hz_ent (lo := [(0, .ref b), (1, .int (nI at_)), (2, .int (nI k))]) (by decide) (Nat.le_of_ble_eq_true rfl) rfl ?_
  refine hz_bytes hM ha hz (fun hby => ?_)
  refine hz_aloadn (pc := 0) 0 (hz_dec kX12_outputAt 0 rfl) rfl ?_
  refine hz_iloadn (pc := 1) 1 (hz_dec kX12_outputAt 1 rfl) rfl ?_
  refine hz_bald (pc := 2) (j := at_) (hz_dec kX12_outputAt 2 rfl) hM ha hz rfl (by omega) (by omega) ?_
  refine hz_eqi (pc := 3) (by_pos (hby at_ hl) (by omega)) ?_
  refine hz_istoren (pc := 3) (i := 3) (lo2 := [(3, .int (nI (bb (f at_)))), (0, .ref b), (1, .int (nI at_)), (2, .int (nI k))]) (hz_dec kX12_outputAt 3 rfl) rfl (by decide) rfl ?_
  refine hz_iloadn (pc := 4) 2 (hz_dec kX12_outputAt 4 rfl) rfl ?_
  refine hz_iconst (pc := 5) (v := nI 2) (hz_dec kX12_outputAt 5 rfl) (by decide) ?_
  refine hz_addN (pc := 6) (hz_dec kX12_outputAt 6 rfl) ?_
  refine hz_iloadn (pc := 7) 0 (hz_dec kX12_outputAt 7 rfl) rfl ?_
  refine hz_z_ne (pc := 8) (tgt := 15) (hz_dec kX12_outputAt 8 rfl) (by decide) (by omega) (fun h1 => ?_) (fun h1 => ?_)
  · skip
    refine hz_iconst (pc := 15) (v := nI 0) (hz_dec kX12_outputAt 11 rfl) (by decide) ?_
    refine hz_addN (pc := 16) (hz_dec kX12_outputAt 12 rfl) ?_
    refine hz_bipush (pc := 17) (v := nI 73) (hz_dec kX12_outputAt 13 rfl) (by decide) ?_
    refine hz_iloadn (pc := 19) 0 (hz_dec kX12_outputAt 14 rfl) rfl ?_
    refine hz_mulN (pc := 20) (hz_dec kX12_outputAt 15 rfl) ?_
    refine hz_addN (pc := 21) (hz_dec kX12_outputAt 16 rfl) ?_
    refine hz_bipush (pc := 22) (v := nI 16) (hz_dec kX12_outputAt 17 rfl) (by decide) ?_
    refine hz_iloadn (pc := 24) 3 (hz_dec kX12_outputAt 18 rfl) rfl ?_
    refine hz_mulN (pc := 25) (hz_dec kX12_outputAt 19 rfl) ?_
    refine hz_addN (pc := 26) (hz_dec kX12_outputAt 20 rfl) ?_
    exact hz_iret (pc := 27) (hz_dec kX12_outputAt 21 rfl) rfl ⟨by rw [tx_oa, if_neg (by omega)]; exact congrArg (fun q => some (Value.int (nI q))) (by omega), rfl, rfl⟩
  · skip
    refine hz_iconst (pc := 11) (v := nI 4) (hz_dec kX12_outputAt 9 rfl) (by decide) ?_
    refine hz_goto (pc := 12) (tgt := 16) (hz_dec kX12_outputAt 10 rfl) (by decide) ?_
    refine hz_addN (pc := 16) (hz_dec kX12_outputAt 12 rfl) ?_
    refine hz_bipush (pc := 17) (v := nI 73) (hz_dec kX12_outputAt 13 rfl) (by decide) ?_
    refine hz_iloadn (pc := 19) 0 (hz_dec kX12_outputAt 14 rfl) rfl ?_
    refine hz_mulN (pc := 20) (hz_dec kX12_outputAt 15 rfl) ?_
    refine hz_addN (pc := 21) (hz_dec kX12_outputAt 16 rfl) ?_
    refine hz_bipush (pc := 22) (v := nI 16) (hz_dec kX12_outputAt 17 rfl) (by decide) ?_
    refine hz_iloadn (pc := 24) 3 (hz_dec kX12_outputAt 18 rfl) rfl ?_
    refine hz_mulN (pc := 25) (hz_dec kX12_outputAt 19 rfl) ?_
    refine hz_addN (pc := 26) (hz_dec kX12_outputAt 20 rfl) ?_
    exact hz_iret (pc := 27) (hz_dec kX12_outputAt 21 rfl) rfl ⟨by rw [tx_oa, if_pos h1]; exact congrArg (fun q => some (Value.int (nI q))) (by omega), rfl, rfl⟩
theorem md_tsl {f : Nat → Int32} {at_ l : Nat} (hl : l < 2 ^ 30) : md_ts f at_ l = nI l ↔ tx_len f at_ (at_ + l) = l ∧ l ≠ 0 := by
  unfold md_ts
  have hle := tx_len_le f at_ (at_ + l)
  by_cases h0 : tx_len f at_ (at_ + l) = 0
  · rw [if_pos h0]
    refine ⟨fun q => absurd q (fun q => ?_), fun q => by omega⟩
    have r := congrArg Int32.toInt q
    rw [nI_toInt (by omega), show (-1 : Int32).toInt = -1 by decide] at r
    omega
  · rw [if_neg h0, nI_eq (by omega) (by omega)]
    omega
set_option maxHeartbeats 4000000 in
set_option maxRecDepth 100000 in
theorem c_isTx {κ : hz_C} {z : Nat} {M : hz_M} {b n : Nat} {f : Nat → Int32} (hM : M b = .inl (1, n, .inl f)) (ha : 8 ≤ b) (hz : b < z) (hn : n < 2 ^ 30) {at_ l : Nat} (hl : at_ + l ≤ n) : hz_Mt κ xX12_isTransaction 1 0 0 [.ref b, .int (nI at_), .int (nI l)] z M (hz_ex (some (.int (hz_b (decide (tx_len f at_ (at_ + l) = l ∧ l ≠ 0))))) z M) := by
  refine hz_ent (lo := [(0, .ref b), (1, .int (nI at_)), (2, .int (nI l))]) (by decide) (Nat.le_of_ble_eq_true rfl) rfl ?_
  refine hz_aloadn (pc := 0) 0 (hz_dec kX12_isTransaction 0 rfl) rfl ?_
  refine hz_iloadn (pc := 1) 1 (hz_dec kX12_isTransaction 1 rfl) rfl ?_
  refine hz_iloadn (pc := 2) 2 (hz_dec kX12_isTransaction 2 rfl) rfl ?_
  refine hz_xS (pc := 3) (As := [.ref b, .int (nI at_), .int (nI l)]) (st := []) (hz_dec kX12_isTransaction 3 rfl) co_X12_405 sc_X12_transactionSize (c_mts hM ha hz hn hl) rfl (by decide) ⟨Nat.le_refl _, Nat.le_refl _⟩ (Nat.le_of_ble_eq_true rfl) rfl ?_
  refine hz_iloadn (pc := 6) 2 (hz_dec kX12_isTransaction 4 rfl) rfl ?_
  refine hz_icmp_ne (pc := 7) (tgt := 14) (hz_dec kX12_isTransaction 5 rfl) (by decide) (fun h1 => ?_) (fun h1 => ?_)
  · skip
    refine hz_iconst (pc := 14) (v := nI 0) (hz_dec kX12_isTransaction 8 rfl) (by decide) ?_
    exact hz_zret (pc := 15) (hz_dec kX12_isTransaction 9 rfl) rfl rfl ⟨by rw [show decide (tx_len f at_ (at_ + l) = l ∧ l ≠ 0) = false from decide_eq_false (fun q => h1 ((md_tsl (by omega)).mpr q))]; rfl, rfl, rfl⟩
  · skip
    refine hz_iconst (pc := 10) (v := nI 1) (hz_dec kX12_isTransaction 6 rfl) (by decide) ?_
    refine hz_goto (pc := 11) (tgt := 15) (hz_dec kX12_isTransaction 7 rfl) (by decide) ?_
    exact hz_zret (pc := 15) (hz_dec kX12_isTransaction 9 rfl) rfl rfl ⟨by rw [show decide (tx_len f at_ (at_ + l) = l ∧ l ≠ 0) = true from decide_eq_true ((md_tsl (by omega)).mp h1)]; rfl, rfl, rfl⟩
