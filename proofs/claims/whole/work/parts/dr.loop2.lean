/-! the law: one call -/
theorem lg_cmp_self (a : Int64) : lg_cmp a a = 0 := (lg_cmp_eq _ _).mpr rfl
set_option maxHeartbeats 4000000 in
set_option maxRecDepth 100000 in
theorem lw_c0 {κ : hz_C} {bb_ L : Nat} {xs : Nat → Int32} {cn sn : Nat} (hcn : cn ≤ 600000) (hsn : sn ≤ 7302250) (hLs : L < 2 ^ 30) {i : Nat} (hi : i + 5 < L) {F : by_L} {z B : Nat} {M : hz_M} {H : ho_H} (hI : lawI F z B M H) (K : ∀ M2 H2, lawI F z B M2 H2 → lz_W κ bb_ L xs cn sn 1989 [(3, .int (nI i)), (1, .ref 8), (2, .ref B)] [] z M2) : lz_W κ bb_ L xs cn sn 216 [(3, .int (nI i)), (1, .ref 8), (2, .ref B)] [] z M := by
  obtain ⟨hB, hBz⟩ := hI.z
  obtain ⟨fs8, hM8⟩ := hI.c
  obtain ⟨an, hC⟩ := ok_use (κ := κ) (as := [.int (xs (i + 1)), .int (xs (i + 2)), .int (xs (i + 3)), .int (xs (i + 4)), .int (xs (i + 5))]) k_feed hI
  refine lz_aloadn (pc := 216) 1 (hz_dec kL0 28 rfl) rfl ?_
  refine lz_sk (pc := 217) (i := i + 1) 0 (hz_dec kL0 29 rfl) (hz_dec kL0 30 rfl) (hz_dec kL0 31 rfl) (kv := nI 1) (by decide) (hz_dec kL0 32 rfl) (hz_dec kL0 33 rfl) rfl (nI_add i 1) (by omega) (by omega) ?_
  refine lz_sk (pc := 222) (i := i + 2) 0 (hz_dec kL0 34 rfl) (hz_dec kL0 35 rfl) (hz_dec kL0 36 rfl) (kv := nI 2) (by decide) (hz_dec kL0 37 rfl) (hz_dec kL0 38 rfl) rfl (nI_add i 2) (by omega) (by omega) ?_
  refine lz_sk (pc := 227) (i := i + 3) 0 (hz_dec kL0 39 rfl) (hz_dec kL0 40 rfl) (hz_dec kL0 41 rfl) (kv := nI 3) (by decide) (hz_dec kL0 42 rfl) (hz_dec kL0 43 rfl) rfl (nI_add i 3) (by omega) (by omega) ?_
  refine lz_sk (pc := 232) (i := i + 4) 0 (hz_dec kL0 44 rfl) (hz_dec kL0 45 rfl) (hz_dec kL0 46 rfl) (kv := nI 4) (by decide) (hz_dec kL0 47 rfl) (hz_dec kL0 48 rfl) rfl (nI_add i 4) (by omega) (by omega) ?_
  refine lz_sk (pc := 237) (i := i + 5) 0 (hz_dec kL0 49 rfl) (hz_dec kL0 50 rfl) (hz_dec kL0 51 rfl) (kv := nI 5) (by decide) (hz_dec kL0 52 rfl) (hz_dec kL0 53 rfl) rfl (nI_add i 5) (by omega) (by omega) ?_
  refine lz_callV (pc := 242) (a := 8) (As := [.int (xs (i + 1)), .int (xs (i + 2)), .int (xs (i + 3)), .int (xs (i + 4)), .int (xs (i + 5))]) (st := []) (hz_dec kL0 54 rfl) co_L_21 im_X11_feed se_X11_feed rfl hM8 (by decide) (by omega) hC rfl (by decide) ⟨hcn, hsn⟩ (Nat.le_of_ble_eq_true rfl) rfl (fun r9 z9 M2 hp9 => ?_)
  obtain ⟨rfl, rfl, ⟨fs2, hO2⟩, hD⟩ := hp9
  refine lz_aloadn (pc := 245) 2 (hz_dec kL0 55 rfl) rfl ?_
  refine lz_sk (pc := 246) (i := i + 1) 0 (hz_dec kL0 56 rfl) (hz_dec kL0 57 rfl) (hz_dec kL0 58 rfl) (kv := nI 1) (by decide) (hz_dec kL0 59 rfl) (hz_dec kL1 0 rfl) rfl (nI_add i 1) (by omega) (by omega) ?_
  refine lz_sk (pc := 251) (i := i + 2) 0 (hz_dec kL1 1 rfl) (hz_dec kL1 2 rfl) (hz_dec kL1 3 rfl) (kv := nI 2) (by decide) (hz_dec kL1 4 rfl) (hz_dec kL1 5 rfl) rfl (nI_add i 2) (by omega) (by omega) ?_
  refine lz_sk (pc := 256) (i := i + 3) 0 (hz_dec kL1 6 rfl) (hz_dec kL1 7 rfl) (hz_dec kL1 8 rfl) (kv := nI 3) (by decide) (hz_dec kL1 9 rfl) (hz_dec kL1 10 rfl) rfl (nI_add i 3) (by omega) (by omega) ?_
  refine lz_sk (pc := 261) (i := i + 4) 0 (hz_dec kL1 11 rfl) (hz_dec kL1 12 rfl) (hz_dec kL1 13 rfl) (kv := nI 4) (by decide) (hz_dec kL1 14 rfl) (hz_dec kL1 15 rfl) rfl (nI_add i 4) (by omega) (by omega) ?_
  refine lz_sk (pc := 266) (i := i + 5) 0 (hz_dec kL1 16 rfl) (hz_dec kL1 17 rfl) (hz_dec kL1 18 rfl) (kv := nI 5) (by decide) (hz_dec kL1 19 rfl) (hz_dec kL1 20 rfl) rfl (nI_add i 5) (by omega) (by omega) ?_
  refine lz_callV (pc := 271) (a := B) (As := [.int (xs (i + 1)), .int (xs (i + 2)), .int (xs (i + 3)), .int (xs (i + 4)), .int (xs (i + 5))]) (st := [.int an]) (hz_dec kL1 21 rfl) co_L_25 im_X12_feed se_X12_feed rfl hO2 (by omega) (by omega) hD rfl (by decide) ⟨hcn, hsn⟩ (Nat.le_of_ble_eq_true rfl) rfl (fun r9 z9 M3 hp9 => ?_)
  obtain ⟨rfl, rfl, H2, hI2⟩ := hp9
  exact lz_icmp_eq (pc := 274) (tgt := 1989) (hz_dec kL1 22 rfl) (by decide) (fun _ => K M3 H2 hI2) (fun q => absurd rfl q)
set_option maxHeartbeats 4000000 in
set_option maxRecDepth 100000 in
theorem lw_c1 {κ : hz_C} {bb_ L : Nat} {xs : Nat → Int32} {cn sn : Nat} (hcn : cn ≤ 600000) (hsn : sn ≤ 7302250) (hLs : L < 2 ^ 30) {i : Nat} (hi : i + 5 < L) {F : by_L} {z B : Nat} {M : hz_M} {H : ho_H} (hI : lawI F z B M H) (K : ∀ M2 H2, lawI F z B M2 H2 → lz_W κ bb_ L xs cn sn 1989 [(3, .int (nI i)), (1, .ref 8), (2, .ref B)] [] z M2) : lz_W κ bb_ L xs cn sn 279 [(3, .int (nI i)), (1, .ref 8), (2, .ref B)] [] z M := by
  obtain ⟨hB, hBz⟩ := hI.z
  obtain ⟨fs8, hM8⟩ := hI.c
  obtain ⟨an, hC⟩ := ok_use (κ := κ) (as := [.int (xs (i + 1))]) k_cut hI
  refine lz_aloadn (pc := 279) 1 (hz_dec kL1 25 rfl) rfl ?_
  refine lz_sk (pc := 280) (i := i + 1) 0 (hz_dec kL1 26 rfl) (hz_dec kL1 27 rfl) (hz_dec kL1 28 rfl) (kv := nI 1) (by decide) (hz_dec kL1 29 rfl) (hz_dec kL1 30 rfl) rfl (nI_add i 1) (by omega) (by omega) ?_
  refine lz_callV (pc := 285) (a := 8) (As := [.int (xs (i + 1))]) (st := []) (hz_dec kL1 31 rfl) co_L_26 im_X11_cut se_X11_cut rfl hM8 (by decide) (by omega) hC rfl (by decide) ⟨hcn, hsn⟩ (Nat.le_of_ble_eq_true rfl) rfl (fun r9 z9 M2 hp9 => ?_)
  obtain ⟨rfl, rfl, ⟨fs2, hO2⟩, hD⟩ := hp9
  refine lz_aloadn (pc := 288) 2 (hz_dec kL1 32 rfl) rfl ?_
  refine lz_sk (pc := 289) (i := i + 1) 0 (hz_dec kL1 33 rfl) (hz_dec kL1 34 rfl) (hz_dec kL1 35 rfl) (kv := nI 1) (by decide) (hz_dec kL1 36 rfl) (hz_dec kL1 37 rfl) rfl (nI_add i 1) (by omega) (by omega) ?_
  refine lz_callV (pc := 294) (a := B) (As := [.int (xs (i + 1))]) (st := [.int an]) (hz_dec kL1 38 rfl) co_L_30 im_X12_cut se_X12_cut rfl hO2 (by omega) (by omega) hD rfl (by decide) ⟨hcn, hsn⟩ (Nat.le_of_ble_eq_true rfl) rfl (fun r9 z9 M3 hp9 => ?_)
  obtain ⟨rfl, rfl, H2, hI2⟩ := hp9
  exact lz_icmp_eq (pc := 297) (tgt := 1989) (hz_dec kL1 39 rfl) (by decide) (fun _ => K M3 H2 hI2) (fun q => absurd rfl q)
set_option maxHeartbeats 4000000 in
set_option maxRecDepth 100000 in
theorem lw_c2 {κ : hz_C} {bb_ L : Nat} {xs : Nat → Int32} {cn sn : Nat} (hcn : cn ≤ 600000) (hsn : sn ≤ 7302250) (hLs : L < 2 ^ 30) {i : Nat} (hi : i + 5 < L) {F : by_L} {z B : Nat} {M : hz_M} {H : ho_H} (hI : lawI F z B M H) (K : ∀ M2 H2, lawI F z B M2 H2 → lz_W κ bb_ L xs cn sn 1989 [(3, .int (nI i)), (1, .ref 8), (2, .ref B)] [] z M2) : lz_W κ bb_ L xs cn sn 302 [(3, .int (nI i)), (1, .ref 8), (2, .ref B)] [] z M := by
  obtain ⟨hB, hBz⟩ := hI.z
  obtain ⟨fs8, hM8⟩ := hI.c
  obtain ⟨an, hC⟩ := ok_use (κ := κ) (as := [.int (xs (i + 1)), .int (xs (i + 2))]) k_turn hI
  refine lz_aloadn (pc := 302) 1 (hz_dec kL1 42 rfl) rfl ?_
  refine lz_sk (pc := 303) (i := i + 1) 0 (hz_dec kL1 43 rfl) (hz_dec kL1 44 rfl) (hz_dec kL1 45 rfl) (kv := nI 1) (by decide) (hz_dec kL1 46 rfl) (hz_dec kL1 47 rfl) rfl (nI_add i 1) (by omega) (by omega) ?_
  refine lz_sk (pc := 308) (i := i + 2) 0 (hz_dec kL1 48 rfl) (hz_dec kL1 49 rfl) (hz_dec kL1 50 rfl) (kv := nI 2) (by decide) (hz_dec kL1 51 rfl) (hz_dec kL1 52 rfl) rfl (nI_add i 2) (by omega) (by omega) ?_
  refine lz_callV (pc := 313) (a := 8) (As := [.int (xs (i + 1)), .int (xs (i + 2))]) (st := []) (hz_dec kL1 53 rfl) co_L_31 im_X11_turn se_X11_turn rfl hM8 (by decide) (by omega) hC rfl (by decide) ⟨hcn, hsn⟩ (Nat.le_of_ble_eq_true rfl) rfl (fun r9 z9 M2 hp9 => ?_)
  obtain ⟨rfl, rfl, ⟨fs2, hO2⟩, hD⟩ := hp9
  refine lz_aloadn (pc := 316) 2 (hz_dec kL1 54 rfl) rfl ?_
  refine lz_sk (pc := 317) (i := i + 1) 0 (hz_dec kL1 55 rfl) (hz_dec kL1 56 rfl) (hz_dec kL1 57 rfl) (kv := nI 1) (by decide) (hz_dec kL1 58 rfl) (hz_dec kL1 59 rfl) rfl (nI_add i 1) (by omega) (by omega) ?_
  refine lz_sk (pc := 322) (i := i + 2) 0 (hz_dec kL2 0 rfl) (hz_dec kL2 1 rfl) (hz_dec kL2 2 rfl) (kv := nI 2) (by decide) (hz_dec kL2 3 rfl) (hz_dec kL2 4 rfl) rfl (nI_add i 2) (by omega) (by omega) ?_
  refine lz_callV (pc := 327) (a := B) (As := [.int (xs (i + 1)), .int (xs (i + 2))]) (st := [.int an]) (hz_dec kL2 5 rfl) co_L_35 im_X12_turn se_X12_turn rfl hO2 (by omega) (by omega) hD rfl (by decide) ⟨hcn, hsn⟩ (Nat.le_of_ble_eq_true rfl) rfl (fun r9 z9 M3 hp9 => ?_)
  obtain ⟨rfl, rfl, H2, hI2⟩ := hp9
  exact lz_icmp_eq (pc := 330) (tgt := 1989) (hz_dec kL2 6 rfl) (by decide) (fun _ => K M3 H2 hI2) (fun q => absurd rfl q)
set_option maxHeartbeats 4000000 in
set_option maxRecDepth 100000 in
theorem lw_c3 {κ : hz_C} {bb_ L : Nat} {xs : Nat → Int32} {cn sn : Nat} (hcn : cn ≤ 600000) (hsn : sn ≤ 7302250) (hLs : L < 2 ^ 30) {i : Nat} (hi : i + 5 < L) {F : by_L} {z B : Nat} {M : hz_M} {H : ho_H} (hI : lawI F z B M H) (K : ∀ M2 H2, lawI F z B M2 H2 → lz_W κ bb_ L xs cn sn 1989 [(3, .int (nI i)), (1, .ref 8), (2, .ref B)] [] z M2) : lz_W κ bb_ L xs cn sn 335 [(3, .int (nI i)), (1, .ref 8), (2, .ref B)] [] z M := by
  obtain ⟨hB, hBz⟩ := hI.z
  obtain ⟨fs8, hM8⟩ := hI.c
  by_cases hb0 : xs (i + 1) = 0
  · skip
    obtain ⟨an, hC⟩ := ok_use (κ := κ) (as := [.int (nI 0), .int (xs (i + 2))]) k_hash hI
    refine lz_aloadn (pc := 335) 1 (hz_dec kL2 9 rfl) rfl ?_
    refine lz_sk (pc := 336) (i := i + 1) 0 (hz_dec kL2 10 rfl) (hz_dec kL2 11 rfl) (hz_dec kL2 12 rfl) (kv := nI 1) (by decide) (hz_dec kL2 13 rfl) (hz_dec kL2 14 rfl) rfl (nI_add i 1) (by omega) (by omega) ?_
    refine lz_if_eq (pc := 341) (tgt := 348) (hz_dec kL2 15 rfl) (by decide) (fun _ => ?_) (fun q => absurd hb0 q)
    refine lz_iconst (pc := 348) (v := nI 0) (hz_dec kL2 18 rfl) (by decide) ?_
    refine lz_sk (pc := 349) (i := i + 2) 0 (hz_dec kL2 19 rfl) (hz_dec kL2 20 rfl) (hz_dec kL2 21 rfl) (kv := nI 2) (by decide) (hz_dec kL2 22 rfl) (hz_dec kL2 23 rfl) rfl (nI_add i 2) (by omega) (by omega) ?_
    refine lz_callV (pc := 354) (a := 8) (As := [.int (nI 0), .int (xs (i + 2))]) (st := []) (hz_dec kL2 24 rfl) co_L_36 im_X11_hash se_X11_hash rfl hM8 (by decide) (by omega) hC rfl (by decide) ⟨hcn, hsn⟩ (Nat.le_of_ble_eq_true rfl) rfl (fun r9 z9 M2 hp9 => ?_)
    obtain ⟨rfl, rfl, ⟨fs2, hO2⟩, hD⟩ := hp9
    refine lz_aloadn (pc := 357) 2 (hz_dec kL2 25 rfl) rfl ?_
    refine lz_sk (pc := 358) (i := i + 1) 0 (hz_dec kL2 26 rfl) (hz_dec kL2 27 rfl) (hz_dec kL2 28 rfl) (kv := nI 1) (by decide) (hz_dec kL2 29 rfl) (hz_dec kL2 30 rfl) rfl (nI_add i 1) (by omega) (by omega) ?_
    refine lz_if_eq (pc := 363) (tgt := 370) (hz_dec kL2 31 rfl) (by decide) (fun _ => ?_) (fun q => absurd hb0 q)
    refine lz_iconst (pc := 370) (v := nI 0) (hz_dec kL2 34 rfl) (by decide) ?_
    refine lz_sk (pc := 371) (i := i + 2) 0 (hz_dec kL2 35 rfl) (hz_dec kL2 36 rfl) (hz_dec kL2 37 rfl) (kv := nI 2) (by decide) (hz_dec kL2 38 rfl) (hz_dec kL2 39 rfl) rfl (nI_add i 2) (by omega) (by omega) ?_
    refine lz_callV (pc := 376) (a := B) (As := [.int (nI 0), .int (xs (i + 2))]) (st := [.long an]) (hz_dec kL2 40 rfl) co_L_40 im_X12_hash se_X12_hash rfl hO2 (by omega) (by omega) hD rfl (by decide) ⟨hcn, hsn⟩ (Nat.le_of_ble_eq_true rfl) rfl (fun r9 z9 M3 hp9 => ?_)
    obtain ⟨rfl, rfl, H2, hI2⟩ := hp9
    refine lz_lcmp (pc := 379) (hz_dec kL2 41 rfl) ?_
    exact lz_if_eq (pc := 380) (tgt := 1989) (hz_dec kL2 42 rfl) (by decide) (fun _ => K M3 H2 hI2) (fun q => absurd (lg_cmp_self an) q)
  · skip
    obtain ⟨an, hC⟩ := ok_use (κ := κ) (as := [.int (nI 1), .int (xs (i + 2))]) k_hash hI
    refine lz_aloadn (pc := 335) 1 (hz_dec kL2 9 rfl) rfl ?_
    refine lz_sk (pc := 336) (i := i + 1) 0 (hz_dec kL2 10 rfl) (hz_dec kL2 11 rfl) (hz_dec kL2 12 rfl) (kv := nI 1) (by decide) (hz_dec kL2 13 rfl) (hz_dec kL2 14 rfl) rfl (nI_add i 1) (by omega) (by omega) ?_
    refine lz_if_eq (pc := 341) (tgt := 348) (hz_dec kL2 15 rfl) (by decide) (fun q => absurd q hb0) (fun _ => ?_)
    refine lz_iconst (pc := 344) (v := nI 1) (hz_dec kL2 16 rfl) (by decide) ?_
    refine lz_goto (pc := 345) (tgt := 349) (hz_dec kL2 17 rfl) (by decide) ?_
    refine lz_sk (pc := 349) (i := i + 2) 0 (hz_dec kL2 19 rfl) (hz_dec kL2 20 rfl) (hz_dec kL2 21 rfl) (kv := nI 2) (by decide) (hz_dec kL2 22 rfl) (hz_dec kL2 23 rfl) rfl (nI_add i 2) (by omega) (by omega) ?_
    refine lz_callV (pc := 354) (a := 8) (As := [.int (nI 1), .int (xs (i + 2))]) (st := []) (hz_dec kL2 24 rfl) co_L_36 im_X11_hash se_X11_hash rfl hM8 (by decide) (by omega) hC rfl (by decide) ⟨hcn, hsn⟩ (Nat.le_of_ble_eq_true rfl) rfl (fun r9 z9 M2 hp9 => ?_)
    obtain ⟨rfl, rfl, ⟨fs2, hO2⟩, hD⟩ := hp9
    refine lz_aloadn (pc := 357) 2 (hz_dec kL2 25 rfl) rfl ?_
    refine lz_sk (pc := 358) (i := i + 1) 0 (hz_dec kL2 26 rfl) (hz_dec kL2 27 rfl) (hz_dec kL2 28 rfl) (kv := nI 1) (by decide) (hz_dec kL2 29 rfl) (hz_dec kL2 30 rfl) rfl (nI_add i 1) (by omega) (by omega) ?_
    refine lz_if_eq (pc := 363) (tgt := 370) (hz_dec kL2 31 rfl) (by decide) (fun q => absurd q hb0) (fun _ => ?_)
    refine lz_iconst (pc := 366) (v := nI 1) (hz_dec kL2 32 rfl) (by decide) ?_
    refine lz_goto (pc := 367) (tgt := 371) (hz_dec kL2 33 rfl) (by decide) ?_
    refine lz_sk (pc := 371) (i := i + 2) 0 (hz_dec kL2 35 rfl) (hz_dec kL2 36 rfl) (hz_dec kL2 37 rfl) (kv := nI 2) (by decide) (hz_dec kL2 38 rfl) (hz_dec kL2 39 rfl) rfl (nI_add i 2) (by omega) (by omega) ?_
    refine lz_callV (pc := 376) (a := B) (As := [.int (nI 1), .int (xs (i + 2))]) (st := [.long an]) (hz_dec kL2 40 rfl) co_L_40 im_X12_hash se_X12_hash rfl hO2 (by omega) (by omega) hD rfl (by decide) ⟨hcn, hsn⟩ (Nat.le_of_ble_eq_true rfl) rfl (fun r9 z9 M3 hp9 => ?_)
    obtain ⟨rfl, rfl, H2, hI2⟩ := hp9
    refine lz_lcmp (pc := 379) (hz_dec kL2 41 rfl) ?_
    exact lz_if_eq (pc := 380) (tgt := 1989) (hz_dec kL2 42 rfl) (by decide) (fun _ => K M3 H2 hI2) (fun q => absurd (lg_cmp_self an) q)
set_option maxHeartbeats 4000000 in
set_option maxRecDepth 100000 in
theorem lw_c4 {κ : hz_C} {bb_ L : Nat} {xs : Nat → Int32} {cn sn : Nat} (hcn : cn ≤ 600000) (hsn : sn ≤ 7302250) (hLs : L < 2 ^ 30) {i : Nat} (hi : i + 5 < L) {F : by_L} {z B : Nat} {M : hz_M} {H : ho_H} (hI : lawI F z B M H) (K : ∀ M2 H2, lawI F z B M2 H2 → lz_W κ bb_ L xs cn sn 1989 [(3, .int (nI i)), (1, .ref 8), (2, .ref B)] [] z M2) : lz_W κ bb_ L xs cn sn 385 [(3, .int (nI i)), (1, .ref 8), (2, .ref B)] [] z M := by
  obtain ⟨hB, hBz⟩ := hI.z
  obtain ⟨fs8, hM8⟩ := hI.c
  obtain ⟨an, hC⟩ := ok_use (κ := κ) (as := [.long ((((Int32.toInt64 (xs (i + 1))) <<< (Int32.toInt64 (nI 32) &&& 63)) ||| ((Int32.toInt64 (xs (i + 2))) &&& 4294967295))), .int (xs (i + 3)), .int (xs (i + 4))]) k_part hI
  refine lz_aloadn (pc := 385) 1 (hz_dec kL2 45 rfl) rfl ?_
  refine lz_sk (pc := 386) (i := i + 1) 0 (hz_dec kL2 46 rfl) (hz_dec kL2 47 rfl) (hz_dec kL2 48 rfl) (kv := nI 1) (by decide) (hz_dec kL2 49 rfl) (hz_dec kL2 50 rfl) rfl (nI_add i 1) (by omega) (by omega) ?_
  refine lz_i2l (pc := 391) (hz_dec kL2 51 rfl) ?_
  refine lz_bipush (pc := 392) (v := nI 32) (hz_dec kL2 52 rfl) (by decide) ?_
  refine lz_lshl (pc := 394) (hz_dec kL2 53 rfl) ?_
  refine lz_sk (pc := 395) (i := i + 2) 0 (hz_dec kL2 54 rfl) (hz_dec kL2 55 rfl) (hz_dec kL2 56 rfl) (kv := nI 2) (by decide) (hz_dec kL2 57 rfl) (hz_dec kL2 58 rfl) rfl (nI_add i 2) (by omega) (by omega) ?_
  refine lz_i2l (pc := 400) (hz_dec kL2 59 rfl) ?_
  refine lz_ldc2 (pc := 401) (hz_dec kL3 0 rfl) ks_L_41 ?_
  refine lz_land (pc := 404) (hz_dec kL3 1 rfl) ?_
  refine lz_lor (pc := 405) (hz_dec kL3 2 rfl) ?_
  refine lz_sk (pc := 406) (i := i + 3) 0 (hz_dec kL3 3 rfl) (hz_dec kL3 4 rfl) (hz_dec kL3 5 rfl) (kv := nI 3) (by decide) (hz_dec kL3 6 rfl) (hz_dec kL3 7 rfl) rfl (nI_add i 3) (by omega) (by omega) ?_
  refine lz_sk (pc := 411) (i := i + 4) 0 (hz_dec kL3 8 rfl) (hz_dec kL3 9 rfl) (hz_dec kL3 10 rfl) (kv := nI 4) (by decide) (hz_dec kL3 11 rfl) (hz_dec kL3 12 rfl) rfl (nI_add i 4) (by omega) (by omega) ?_
  refine lz_callV (pc := 416) (a := 8) (As := [.long ((((Int32.toInt64 (xs (i + 1))) <<< (Int32.toInt64 (nI 32) &&& 63)) ||| ((Int32.toInt64 (xs (i + 2))) &&& 4294967295))), .int (xs (i + 3)), .int (xs (i + 4))]) (st := []) (hz_dec kL3 13 rfl) co_L_43 im_X11_part se_X11_part rfl hM8 (by decide) (by omega) hC rfl (by decide) ⟨hcn, hsn⟩ (Nat.le_of_ble_eq_true rfl) rfl (fun r9 z9 M2 hp9 => ?_)
  obtain ⟨rfl, rfl, ⟨fs2, hO2⟩, hD⟩ := hp9
  refine lz_aloadn (pc := 419) 2 (hz_dec kL3 14 rfl) rfl ?_
  refine lz_sk (pc := 420) (i := i + 1) 0 (hz_dec kL3 15 rfl) (hz_dec kL3 16 rfl) (hz_dec kL3 17 rfl) (kv := nI 1) (by decide) (hz_dec kL3 18 rfl) (hz_dec kL3 19 rfl) rfl (nI_add i 1) (by omega) (by omega) ?_
  refine lz_i2l (pc := 425) (hz_dec kL3 20 rfl) ?_
  refine lz_bipush (pc := 426) (v := nI 32) (hz_dec kL3 21 rfl) (by decide) ?_
  refine lz_lshl (pc := 428) (hz_dec kL3 22 rfl) ?_
  refine lz_sk (pc := 429) (i := i + 2) 0 (hz_dec kL3 23 rfl) (hz_dec kL3 24 rfl) (hz_dec kL3 25 rfl) (kv := nI 2) (by decide) (hz_dec kL3 26 rfl) (hz_dec kL3 27 rfl) rfl (nI_add i 2) (by omega) (by omega) ?_
  refine lz_i2l (pc := 434) (hz_dec kL3 28 rfl) ?_
  refine lz_ldc2 (pc := 435) (hz_dec kL3 29 rfl) ks_L_41 ?_
  refine lz_land (pc := 438) (hz_dec kL3 30 rfl) ?_
  refine lz_lor (pc := 439) (hz_dec kL3 31 rfl) ?_
  refine lz_sk (pc := 440) (i := i + 3) 0 (hz_dec kL3 32 rfl) (hz_dec kL3 33 rfl) (hz_dec kL3 34 rfl) (kv := nI 3) (by decide) (hz_dec kL3 35 rfl) (hz_dec kL3 36 rfl) rfl (nI_add i 3) (by omega) (by omega) ?_
  refine lz_sk (pc := 445) (i := i + 4) 0 (hz_dec kL3 37 rfl) (hz_dec kL3 38 rfl) (hz_dec kL3 39 rfl) (kv := nI 4) (by decide) (hz_dec kL3 40 rfl) (hz_dec kL3 41 rfl) rfl (nI_add i 4) (by omega) (by omega) ?_
  refine lz_callV (pc := 450) (a := B) (As := [.long ((((Int32.toInt64 (xs (i + 1))) <<< (Int32.toInt64 (nI 32) &&& 63)) ||| ((Int32.toInt64 (xs (i + 2))) &&& 4294967295))), .int (xs (i + 3)), .int (xs (i + 4))]) (st := [.long an]) (hz_dec kL3 42 rfl) co_L_47 im_X12_part se_X12_part rfl hO2 (by omega) (by omega) hD rfl (by decide) ⟨hcn, hsn⟩ (Nat.le_of_ble_eq_true rfl) rfl (fun r9 z9 M3 hp9 => ?_)
  obtain ⟨rfl, rfl, H2, hI2⟩ := hp9
  refine lz_lcmp (pc := 453) (hz_dec kL3 43 rfl) ?_
  exact lz_if_eq (pc := 454) (tgt := 1989) (hz_dec kL3 44 rfl) (by decide) (fun _ => K M3 H2 hI2) (fun q => absurd (lg_cmp_self an) q)
set_option maxHeartbeats 4000000 in
set_option maxRecDepth 100000 in
theorem lw_c5 {κ : hz_C} {bb_ L : Nat} {xs : Nat → Int32} {cn sn : Nat} (hcn : cn ≤ 600000) (hsn : sn ≤ 7302250) (hLs : L < 2 ^ 30) {i : Nat} (hi : i + 5 < L) {F : by_L} {z B : Nat} {M : hz_M} {H : ho_H} (hI : lawI F z B M H) (K : ∀ M2 H2, lawI F z B M2 H2 → lz_W κ bb_ L xs cn sn 1989 [(3, .int (nI i)), (1, .ref 8), (2, .ref B)] [] z M2) : lz_W κ bb_ L xs cn sn 459 [(3, .int (nI i)), (1, .ref 8), (2, .ref B)] [] z M := by
  obtain ⟨hB, hBz⟩ := hI.z
  obtain ⟨fs8, hM8⟩ := hI.c
  obtain ⟨an, hC⟩ := ok_use (κ := κ) (as := [.long ((((Int32.toInt64 (xs (i + 1))) <<< (Int32.toInt64 (nI 32) &&& 63)) ||| ((Int32.toInt64 (xs (i + 2))) &&& 4294967295)))]) k_address hI
  refine lz_aloadn (pc := 459) 1 (hz_dec kL3 47 rfl) rfl ?_
  refine lz_sk (pc := 460) (i := i + 1) 0 (hz_dec kL3 48 rfl) (hz_dec kL3 49 rfl) (hz_dec kL3 50 rfl) (kv := nI 1) (by decide) (hz_dec kL3 51 rfl) (hz_dec kL3 52 rfl) rfl (nI_add i 1) (by omega) (by omega) ?_
  refine lz_i2l (pc := 465) (hz_dec kL3 53 rfl) ?_
  refine lz_bipush (pc := 466) (v := nI 32) (hz_dec kL3 54 rfl) (by decide) ?_
  refine lz_lshl (pc := 468) (hz_dec kL3 55 rfl) ?_
  refine lz_sk (pc := 469) (i := i + 2) 0 (hz_dec kL3 56 rfl) (hz_dec kL3 57 rfl) (hz_dec kL3 58 rfl) (kv := nI 2) (by decide) (hz_dec kL3 59 rfl) (hz_dec kL4 0 rfl) rfl (nI_add i 2) (by omega) (by omega) ?_
  refine lz_i2l (pc := 474) (hz_dec kL4 1 rfl) ?_
  refine lz_ldc2 (pc := 475) (hz_dec kL4 2 rfl) ks_L_41 ?_
  refine lz_land (pc := 478) (hz_dec kL4 3 rfl) ?_
  refine lz_lor (pc := 479) (hz_dec kL4 4 rfl) ?_
  refine lz_callV (pc := 480) (a := 8) (As := [.long ((((Int32.toInt64 (xs (i + 1))) <<< (Int32.toInt64 (nI 32) &&& 63)) ||| ((Int32.toInt64 (xs (i + 2))) &&& 4294967295)))]) (st := []) (hz_dec kL4 5 rfl) co_L_48 im_X11_address se_X11_address rfl hM8 (by decide) (by omega) hC rfl (by decide) ⟨hcn, hsn⟩ (Nat.le_of_ble_eq_true rfl) rfl (fun r9 z9 M2 hp9 => ?_)
  obtain ⟨rfl, rfl, ⟨fs2, hO2⟩, hD⟩ := hp9
  refine lz_aloadn (pc := 483) 2 (hz_dec kL4 6 rfl) rfl ?_
  refine lz_sk (pc := 484) (i := i + 1) 0 (hz_dec kL4 7 rfl) (hz_dec kL4 8 rfl) (hz_dec kL4 9 rfl) (kv := nI 1) (by decide) (hz_dec kL4 10 rfl) (hz_dec kL4 11 rfl) rfl (nI_add i 1) (by omega) (by omega) ?_
  refine lz_i2l (pc := 489) (hz_dec kL4 12 rfl) ?_
  refine lz_bipush (pc := 490) (v := nI 32) (hz_dec kL4 13 rfl) (by decide) ?_
  refine lz_lshl (pc := 492) (hz_dec kL4 14 rfl) ?_
  refine lz_sk (pc := 493) (i := i + 2) 0 (hz_dec kL4 15 rfl) (hz_dec kL4 16 rfl) (hz_dec kL4 17 rfl) (kv := nI 2) (by decide) (hz_dec kL4 18 rfl) (hz_dec kL4 19 rfl) rfl (nI_add i 2) (by omega) (by omega) ?_
  refine lz_i2l (pc := 498) (hz_dec kL4 20 rfl) ?_
  refine lz_ldc2 (pc := 499) (hz_dec kL4 21 rfl) ks_L_41 ?_
  refine lz_land (pc := 502) (hz_dec kL4 22 rfl) ?_
  refine lz_lor (pc := 503) (hz_dec kL4 23 rfl) ?_
  refine lz_callV (pc := 504) (a := B) (As := [.long ((((Int32.toInt64 (xs (i + 1))) <<< (Int32.toInt64 (nI 32) &&& 63)) ||| ((Int32.toInt64 (xs (i + 2))) &&& 4294967295)))]) (st := [.long an]) (hz_dec kL4 24 rfl) co_L_52 im_X12_address se_X12_address rfl hO2 (by omega) (by omega) hD rfl (by decide) ⟨hcn, hsn⟩ (Nat.le_of_ble_eq_true rfl) rfl (fun r9 z9 M3 hp9 => ?_)
  obtain ⟨rfl, rfl, H2, hI2⟩ := hp9
  refine lz_lcmp (pc := 507) (hz_dec kL4 25 rfl) ?_
  exact lz_if_eq (pc := 508) (tgt := 1989) (hz_dec kL4 26 rfl) (by decide) (fun _ => K M3 H2 hI2) (fun q => absurd (lg_cmp_self an) q)
set_option maxHeartbeats 4000000 in
set_option maxRecDepth 100000 in
theorem lw_c6 {κ : hz_C} {bb_ L : Nat} {xs : Nat → Int32} {cn sn : Nat} (hcn : cn ≤ 600000) (hsn : sn ≤ 7302250) (hLs : L < 2 ^ 30) {i : Nat} (hi : i + 5 < L) {F : by_L} {z B : Nat} {M : hz_M} {H : ho_H} (hI : lawI F z B M H) (K : ∀ M2 H2, lawI F z B M2 H2 → lz_W κ bb_ L xs cn sn 1989 [(3, .int (nI i)), (1, .ref 8), (2, .ref B)] [] z M2) : lz_W κ bb_ L xs cn sn 513 [(3, .int (nI i)), (1, .ref 8), (2, .ref B)] [] z M := by
  obtain ⟨hB, hBz⟩ := hI.z
  obtain ⟨fs8, hM8⟩ := hI.c
  obtain ⟨an, hC⟩ := ok_use (κ := κ) (as := []) k_begin hI
  refine lz_aloadn (pc := 513) 1 (hz_dec kL4 29 rfl) rfl ?_
  refine lz_callV (pc := 514) (a := 8) (As := []) (st := []) (hz_dec kL4 30 rfl) co_L_53 im_X11_begin se_X11_begin rfl hM8 (by decide) (by omega) hC rfl (by decide) ⟨hcn, hsn⟩ (Nat.le_of_ble_eq_true rfl) rfl (fun r9 z9 M2 hp9 => ?_)
  obtain ⟨rfl, rfl, ⟨fs2, hO2⟩, hD⟩ := hp9
  refine lz_aloadn (pc := 517) 2 (hz_dec kL4 31 rfl) rfl ?_
  refine lz_callV (pc := 518) (a := B) (As := []) (st := [.int an]) (hz_dec kL4 32 rfl) co_L_57 im_X12_begin se_X12_begin rfl hO2 (by omega) (by omega) hD rfl (by decide) ⟨hcn, hsn⟩ (Nat.le_of_ble_eq_true rfl) rfl (fun r9 z9 M3 hp9 => ?_)
  obtain ⟨rfl, rfl, H2, hI2⟩ := hp9
  exact lz_icmp_eq (pc := 521) (tgt := 1989) (hz_dec kL4 33 rfl) (by decide) (fun _ => K M3 H2 hI2) (fun q => absurd rfl q)
set_option maxHeartbeats 4000000 in
set_option maxRecDepth 100000 in
theorem lw_c7 {κ : hz_C} {bb_ L : Nat} {xs : Nat → Int32} {cn sn : Nat} (hcn : cn ≤ 600000) (hsn : sn ≤ 7302250) (hLs : L < 2 ^ 30) {i : Nat} (hi : i + 5 < L) {F : by_L} {z B : Nat} {M : hz_M} {H : ho_H} (hI : lawI F z B M H) (K : ∀ M2 H2, lawI F z B M2 H2 → lz_W κ bb_ L xs cn sn 1989 [(3, .int (nI i)), (1, .ref 8), (2, .ref B)] [] z M2) : lz_W κ bb_ L xs cn sn 526 [(3, .int (nI i)), (1, .ref 8), (2, .ref B)] [] z M := by
  obtain ⟨hB, hBz⟩ := hI.z
  obtain ⟨fs8, hM8⟩ := hI.c
  obtain ⟨an, hC⟩ := ok_use (κ := κ) (as := [.long ((((Int32.toInt64 (xs (i + 1))) <<< (Int32.toInt64 (nI 32) &&& 63)) ||| ((Int32.toInt64 (xs (i + 2))) &&& 4294967295))), .int (xs (i + 3)), .long ((((Int32.toInt64 (xs (i + 4))) <<< (Int32.toInt64 (nI 32) &&& 63)) ||| ((Int32.toInt64 (xs (i + 5))) &&& 4294967295)))]) k_input hI
  refine lz_aloadn (pc := 526) 1 (hz_dec kL4 36 rfl) rfl ?_
  refine lz_sk (pc := 527) (i := i + 1) 0 (hz_dec kL4 37 rfl) (hz_dec kL4 38 rfl) (hz_dec kL4 39 rfl) (kv := nI 1) (by decide) (hz_dec kL4 40 rfl) (hz_dec kL4 41 rfl) rfl (nI_add i 1) (by omega) (by omega) ?_
  refine lz_i2l (pc := 532) (hz_dec kL4 42 rfl) ?_
  refine lz_bipush (pc := 533) (v := nI 32) (hz_dec kL4 43 rfl) (by decide) ?_
  refine lz_lshl (pc := 535) (hz_dec kL4 44 rfl) ?_
  refine lz_sk (pc := 536) (i := i + 2) 0 (hz_dec kL4 45 rfl) (hz_dec kL4 46 rfl) (hz_dec kL4 47 rfl) (kv := nI 2) (by decide) (hz_dec kL4 48 rfl) (hz_dec kL4 49 rfl) rfl (nI_add i 2) (by omega) (by omega) ?_
  refine lz_i2l (pc := 541) (hz_dec kL4 50 rfl) ?_
  refine lz_ldc2 (pc := 542) (hz_dec kL4 51 rfl) ks_L_41 ?_
  refine lz_land (pc := 545) (hz_dec kL4 52 rfl) ?_
  refine lz_lor (pc := 546) (hz_dec kL4 53 rfl) ?_
  refine lz_sk (pc := 547) (i := i + 3) 0 (hz_dec kL4 54 rfl) (hz_dec kL4 55 rfl) (hz_dec kL4 56 rfl) (kv := nI 3) (by decide) (hz_dec kL4 57 rfl) (hz_dec kL4 58 rfl) rfl (nI_add i 3) (by omega) (by omega) ?_
  refine lz_sk (pc := 552) (i := i + 4) 0 (hz_dec kL4 59 rfl) (hz_dec kL5 0 rfl) (hz_dec kL5 1 rfl) (kv := nI 4) (by decide) (hz_dec kL5 2 rfl) (hz_dec kL5 3 rfl) rfl (nI_add i 4) (by omega) (by omega) ?_
  refine lz_i2l (pc := 557) (hz_dec kL5 4 rfl) ?_
  refine lz_bipush (pc := 558) (v := nI 32) (hz_dec kL5 5 rfl) (by decide) ?_
  refine lz_lshl (pc := 560) (hz_dec kL5 6 rfl) ?_
  refine lz_sk (pc := 561) (i := i + 5) 0 (hz_dec kL5 7 rfl) (hz_dec kL5 8 rfl) (hz_dec kL5 9 rfl) (kv := nI 5) (by decide) (hz_dec kL5 10 rfl) (hz_dec kL5 11 rfl) rfl (nI_add i 5) (by omega) (by omega) ?_
  refine lz_i2l (pc := 566) (hz_dec kL5 12 rfl) ?_
  refine lz_ldc2 (pc := 567) (hz_dec kL5 13 rfl) ks_L_41 ?_
  refine lz_land (pc := 570) (hz_dec kL5 14 rfl) ?_
  refine lz_lor (pc := 571) (hz_dec kL5 15 rfl) ?_
  refine lz_callV (pc := 572) (a := 8) (As := [.long ((((Int32.toInt64 (xs (i + 1))) <<< (Int32.toInt64 (nI 32) &&& 63)) ||| ((Int32.toInt64 (xs (i + 2))) &&& 4294967295))), .int (xs (i + 3)), .long ((((Int32.toInt64 (xs (i + 4))) <<< (Int32.toInt64 (nI 32) &&& 63)) ||| ((Int32.toInt64 (xs (i + 5))) &&& 4294967295)))]) (st := []) (hz_dec kL5 16 rfl) co_L_58 im_X11_input se_X11_input rfl hM8 (by decide) (by omega) hC rfl (by decide) ⟨hcn, hsn⟩ (Nat.le_of_ble_eq_true rfl) rfl (fun r9 z9 M2 hp9 => ?_)
  obtain ⟨rfl, rfl, ⟨fs2, hO2⟩, hD⟩ := hp9
  refine lz_aloadn (pc := 575) 2 (hz_dec kL5 17 rfl) rfl ?_
  refine lz_sk (pc := 576) (i := i + 1) 0 (hz_dec kL5 18 rfl) (hz_dec kL5 19 rfl) (hz_dec kL5 20 rfl) (kv := nI 1) (by decide) (hz_dec kL5 21 rfl) (hz_dec kL5 22 rfl) rfl (nI_add i 1) (by omega) (by omega) ?_
  refine lz_i2l (pc := 581) (hz_dec kL5 23 rfl) ?_
  refine lz_bipush (pc := 582) (v := nI 32) (hz_dec kL5 24 rfl) (by decide) ?_
  refine lz_lshl (pc := 584) (hz_dec kL5 25 rfl) ?_
  refine lz_sk (pc := 585) (i := i + 2) 0 (hz_dec kL5 26 rfl) (hz_dec kL5 27 rfl) (hz_dec kL5 28 rfl) (kv := nI 2) (by decide) (hz_dec kL5 29 rfl) (hz_dec kL5 30 rfl) rfl (nI_add i 2) (by omega) (by omega) ?_
  refine lz_i2l (pc := 590) (hz_dec kL5 31 rfl) ?_
  refine lz_ldc2 (pc := 591) (hz_dec kL5 32 rfl) ks_L_41 ?_
  refine lz_land (pc := 594) (hz_dec kL5 33 rfl) ?_
  refine lz_lor (pc := 595) (hz_dec kL5 34 rfl) ?_
  refine lz_sk (pc := 596) (i := i + 3) 0 (hz_dec kL5 35 rfl) (hz_dec kL5 36 rfl) (hz_dec kL5 37 rfl) (kv := nI 3) (by decide) (hz_dec kL5 38 rfl) (hz_dec kL5 39 rfl) rfl (nI_add i 3) (by omega) (by omega) ?_
  refine lz_sk (pc := 601) (i := i + 4) 0 (hz_dec kL5 40 rfl) (hz_dec kL5 41 rfl) (hz_dec kL5 42 rfl) (kv := nI 4) (by decide) (hz_dec kL5 43 rfl) (hz_dec kL5 44 rfl) rfl (nI_add i 4) (by omega) (by omega) ?_
  refine lz_i2l (pc := 606) (hz_dec kL5 45 rfl) ?_
  refine lz_bipush (pc := 607) (v := nI 32) (hz_dec kL5 46 rfl) (by decide) ?_
  refine lz_lshl (pc := 609) (hz_dec kL5 47 rfl) ?_
  refine lz_sk (pc := 610) (i := i + 5) 0 (hz_dec kL5 48 rfl) (hz_dec kL5 49 rfl) (hz_dec kL5 50 rfl) (kv := nI 5) (by decide) (hz_dec kL5 51 rfl) (hz_dec kL5 52 rfl) rfl (nI_add i 5) (by omega) (by omega) ?_
  refine lz_i2l (pc := 615) (hz_dec kL5 53 rfl) ?_
  refine lz_ldc2 (pc := 616) (hz_dec kL5 54 rfl) ks_L_41 ?_
  refine lz_land (pc := 619) (hz_dec kL5 55 rfl) ?_
  refine lz_lor (pc := 620) (hz_dec kL5 56 rfl) ?_
  refine lz_callV (pc := 621) (a := B) (As := [.long ((((Int32.toInt64 (xs (i + 1))) <<< (Int32.toInt64 (nI 32) &&& 63)) ||| ((Int32.toInt64 (xs (i + 2))) &&& 4294967295))), .int (xs (i + 3)), .long ((((Int32.toInt64 (xs (i + 4))) <<< (Int32.toInt64 (nI 32) &&& 63)) ||| ((Int32.toInt64 (xs (i + 5))) &&& 4294967295)))]) (st := [.int an]) (hz_dec kL5 57 rfl) co_L_62 im_X12_input se_X12_input rfl hO2 (by omega) (by omega) hD rfl (by decide) ⟨hcn, hsn⟩ (Nat.le_of_ble_eq_true rfl) rfl (fun r9 z9 M3 hp9 => ?_)
  obtain ⟨rfl, rfl, H2, hI2⟩ := hp9
  exact lz_icmp_eq (pc := 624) (tgt := 1989) (hz_dec kL5 58 rfl) (by decide) (fun _ => K M3 H2 hI2) (fun q => absurd rfl q)
set_option maxHeartbeats 4000000 in
set_option maxRecDepth 100000 in
theorem lw_c8 {κ : hz_C} {bb_ L : Nat} {xs : Nat → Int32} {cn sn : Nat} (hcn : cn ≤ 600000) (hsn : sn ≤ 7302250) (hLs : L < 2 ^ 30) {i : Nat} (hi : i + 5 < L) {F : by_L} {z B : Nat} {M : hz_M} {H : ho_H} (hI : lawI F z B M H) (K : ∀ M2 H2, lawI F z B M2 H2 → lz_W κ bb_ L xs cn sn 1989 [(3, .int (nI i)), (1, .ref 8), (2, .ref B)] [] z M2) : lz_W κ bb_ L xs cn sn 629 [(3, .int (nI i)), (1, .ref 8), (2, .ref B)] [] z M := by
  obtain ⟨hB, hBz⟩ := hI.z
  obtain ⟨fs8, hM8⟩ := hI.c
  obtain ⟨an, hC⟩ := ok_use (κ := κ) (as := [.int (xs (i + 1)), .int (xs (i + 2)), .long ((((Int32.toInt64 (xs (i + 3))) <<< (Int32.toInt64 (nI 32) &&& 63)) ||| ((Int32.toInt64 (xs (i + 4))) &&& 4294967295)))]) k_spend hI
  refine lz_aloadn (pc := 629) 1 (hz_dec kL6 1 rfl) rfl ?_
  refine lz_sk (pc := 630) (i := i + 1) 0 (hz_dec kL6 2 rfl) (hz_dec kL6 3 rfl) (hz_dec kL6 4 rfl) (kv := nI 1) (by decide) (hz_dec kL6 5 rfl) (hz_dec kL6 6 rfl) rfl (nI_add i 1) (by omega) (by omega) ?_
  refine lz_sk (pc := 635) (i := i + 2) 0 (hz_dec kL6 7 rfl) (hz_dec kL6 8 rfl) (hz_dec kL6 9 rfl) (kv := nI 2) (by decide) (hz_dec kL6 10 rfl) (hz_dec kL6 11 rfl) rfl (nI_add i 2) (by omega) (by omega) ?_
  refine lz_sk (pc := 640) (i := i + 3) 0 (hz_dec kL6 12 rfl) (hz_dec kL6 13 rfl) (hz_dec kL6 14 rfl) (kv := nI 3) (by decide) (hz_dec kL6 15 rfl) (hz_dec kL6 16 rfl) rfl (nI_add i 3) (by omega) (by omega) ?_
  refine lz_i2l (pc := 645) (hz_dec kL6 17 rfl) ?_
  refine lz_bipush (pc := 646) (v := nI 32) (hz_dec kL6 18 rfl) (by decide) ?_
  refine lz_lshl (pc := 648) (hz_dec kL6 19 rfl) ?_
  refine lz_sk (pc := 649) (i := i + 4) 0 (hz_dec kL6 20 rfl) (hz_dec kL6 21 rfl) (hz_dec kL6 22 rfl) (kv := nI 4) (by decide) (hz_dec kL6 23 rfl) (hz_dec kL6 24 rfl) rfl (nI_add i 4) (by omega) (by omega) ?_
  refine lz_i2l (pc := 654) (hz_dec kL6 25 rfl) ?_
  refine lz_ldc2 (pc := 655) (hz_dec kL6 26 rfl) ks_L_41 ?_
  refine lz_land (pc := 658) (hz_dec kL6 27 rfl) ?_
  refine lz_lor (pc := 659) (hz_dec kL6 28 rfl) ?_
  refine lz_callV (pc := 660) (a := 8) (As := [.int (xs (i + 1)), .int (xs (i + 2)), .long ((((Int32.toInt64 (xs (i + 3))) <<< (Int32.toInt64 (nI 32) &&& 63)) ||| ((Int32.toInt64 (xs (i + 4))) &&& 4294967295)))]) (st := []) (hz_dec kL6 29 rfl) co_L_63 im_X11_spend se_X11_spend rfl hM8 (by decide) (by omega) hC rfl (by decide) ⟨hcn, hsn⟩ (Nat.le_of_ble_eq_true rfl) rfl (fun r9 z9 M2 hp9 => ?_)
  obtain ⟨rfl, rfl, ⟨fs2, hO2⟩, hD⟩ := hp9
  refine lz_aloadn (pc := 663) 2 (hz_dec kL6 30 rfl) rfl ?_
  refine lz_sk (pc := 664) (i := i + 1) 0 (hz_dec kL6 31 rfl) (hz_dec kL6 32 rfl) (hz_dec kL6 33 rfl) (kv := nI 1) (by decide) (hz_dec kL6 34 rfl) (hz_dec kL6 35 rfl) rfl (nI_add i 1) (by omega) (by omega) ?_
  refine lz_sk (pc := 669) (i := i + 2) 0 (hz_dec kL6 36 rfl) (hz_dec kL6 37 rfl) (hz_dec kL6 38 rfl) (kv := nI 2) (by decide) (hz_dec kL6 39 rfl) (hz_dec kL6 40 rfl) rfl (nI_add i 2) (by omega) (by omega) ?_
  refine lz_sk (pc := 674) (i := i + 3) 0 (hz_dec kL6 41 rfl) (hz_dec kL6 42 rfl) (hz_dec kL6 43 rfl) (kv := nI 3) (by decide) (hz_dec kL6 44 rfl) (hz_dec kL6 45 rfl) rfl (nI_add i 3) (by omega) (by omega) ?_
  refine lz_i2l (pc := 679) (hz_dec kL6 46 rfl) ?_
  refine lz_bipush (pc := 680) (v := nI 32) (hz_dec kL6 47 rfl) (by decide) ?_
  refine lz_lshl (pc := 682) (hz_dec kL6 48 rfl) ?_
  refine lz_sk (pc := 683) (i := i + 4) 0 (hz_dec kL6 49 rfl) (hz_dec kL6 50 rfl) (hz_dec kL6 51 rfl) (kv := nI 4) (by decide) (hz_dec kL6 52 rfl) (hz_dec kL6 53 rfl) rfl (nI_add i 4) (by omega) (by omega) ?_
  refine lz_i2l (pc := 688) (hz_dec kL6 54 rfl) ?_
  refine lz_ldc2 (pc := 689) (hz_dec kL6 55 rfl) ks_L_41 ?_
  refine lz_land (pc := 692) (hz_dec kL6 56 rfl) ?_
  refine lz_lor (pc := 693) (hz_dec kL6 57 rfl) ?_
  refine lz_callV (pc := 694) (a := B) (As := [.int (xs (i + 1)), .int (xs (i + 2)), .long ((((Int32.toInt64 (xs (i + 3))) <<< (Int32.toInt64 (nI 32) &&& 63)) ||| ((Int32.toInt64 (xs (i + 4))) &&& 4294967295)))]) (st := [.int an]) (hz_dec kL6 58 rfl) co_L_67 im_X12_spend se_X12_spend rfl hO2 (by omega) (by omega) hD rfl (by decide) ⟨hcn, hsn⟩ (Nat.le_of_ble_eq_true rfl) rfl (fun r9 z9 M3 hp9 => ?_)
  obtain ⟨rfl, rfl, H2, hI2⟩ := hp9
  exact lz_icmp_eq (pc := 697) (tgt := 1989) (hz_dec kL6 59 rfl) (by decide) (fun _ => K M3 H2 hI2) (fun q => absurd rfl q)
set_option maxHeartbeats 4000000 in
set_option maxRecDepth 100000 in
theorem lw_c9 {κ : hz_C} {bb_ L : Nat} {xs : Nat → Int32} {cn sn : Nat} (hcn : cn ≤ 600000) (hsn : sn ≤ 7302250) (hLs : L < 2 ^ 30) {i : Nat} (hi : i + 5 < L) {F : by_L} {z B : Nat} {M : hz_M} {H : ho_H} (hI : lawI F z B M H) (K : ∀ M2 H2, lawI F z B M2 H2 → lz_W κ bb_ L xs cn sn 1989 [(3, .int (nI i)), (1, .ref 8), (2, .ref B)] [] z M2) : lz_W κ bb_ L xs cn sn 702 [(3, .int (nI i)), (1, .ref 8), (2, .ref B)] [] z M := by
  obtain ⟨hB, hBz⟩ := hI.z
  obtain ⟨fs8, hM8⟩ := hI.c
  obtain ⟨an, hC⟩ := ok_use (κ := κ) (as := [.long ((((Int32.toInt64 (xs (i + 1))) <<< (Int32.toInt64 (nI 32) &&& 63)) ||| ((Int32.toInt64 (xs (i + 2))) &&& 4294967295))), .long ((((Int32.toInt64 (xs (i + 3))) <<< (Int32.toInt64 (nI 32) &&& 63)) ||| ((Int32.toInt64 (xs (i + 4))) &&& 4294967295)))]) k_output hI
  refine lz_aloadn (pc := 702) 1 (hz_dec kL7 2 rfl) rfl ?_
  refine lz_sk (pc := 703) (i := i + 1) 0 (hz_dec kL7 3 rfl) (hz_dec kL7 4 rfl) (hz_dec kL7 5 rfl) (kv := nI 1) (by decide) (hz_dec kL7 6 rfl) (hz_dec kL7 7 rfl) rfl (nI_add i 1) (by omega) (by omega) ?_
  refine lz_i2l (pc := 708) (hz_dec kL7 8 rfl) ?_
  refine lz_bipush (pc := 709) (v := nI 32) (hz_dec kL7 9 rfl) (by decide) ?_
  refine lz_lshl (pc := 711) (hz_dec kL7 10 rfl) ?_
  refine lz_sk (pc := 712) (i := i + 2) 0 (hz_dec kL7 11 rfl) (hz_dec kL7 12 rfl) (hz_dec kL7 13 rfl) (kv := nI 2) (by decide) (hz_dec kL7 14 rfl) (hz_dec kL7 15 rfl) rfl (nI_add i 2) (by omega) (by omega) ?_
  refine lz_i2l (pc := 717) (hz_dec kL7 16 rfl) ?_
  refine lz_ldc2 (pc := 718) (hz_dec kL7 17 rfl) ks_L_41 ?_
  refine lz_land (pc := 721) (hz_dec kL7 18 rfl) ?_
  refine lz_lor (pc := 722) (hz_dec kL7 19 rfl) ?_
  refine lz_sk (pc := 723) (i := i + 3) 0 (hz_dec kL7 20 rfl) (hz_dec kL7 21 rfl) (hz_dec kL7 22 rfl) (kv := nI 3) (by decide) (hz_dec kL7 23 rfl) (hz_dec kL7 24 rfl) rfl (nI_add i 3) (by omega) (by omega) ?_
  refine lz_i2l (pc := 728) (hz_dec kL7 25 rfl) ?_
  refine lz_bipush (pc := 729) (v := nI 32) (hz_dec kL7 26 rfl) (by decide) ?_
  refine lz_lshl (pc := 731) (hz_dec kL7 27 rfl) ?_
  refine lz_sk (pc := 732) (i := i + 4) 0 (hz_dec kL7 28 rfl) (hz_dec kL7 29 rfl) (hz_dec kL7 30 rfl) (kv := nI 4) (by decide) (hz_dec kL7 31 rfl) (hz_dec kL7 32 rfl) rfl (nI_add i 4) (by omega) (by omega) ?_
  refine lz_i2l (pc := 737) (hz_dec kL7 33 rfl) ?_
  refine lz_ldc2 (pc := 738) (hz_dec kL7 34 rfl) ks_L_41 ?_
  refine lz_land (pc := 741) (hz_dec kL7 35 rfl) ?_
  refine lz_lor (pc := 742) (hz_dec kL7 36 rfl) ?_
  refine lz_callV (pc := 743) (a := 8) (As := [.long ((((Int32.toInt64 (xs (i + 1))) <<< (Int32.toInt64 (nI 32) &&& 63)) ||| ((Int32.toInt64 (xs (i + 2))) &&& 4294967295))), .long ((((Int32.toInt64 (xs (i + 3))) <<< (Int32.toInt64 (nI 32) &&& 63)) ||| ((Int32.toInt64 (xs (i + 4))) &&& 4294967295)))]) (st := []) (hz_dec kL7 37 rfl) co_L_68 im_X11_output se_X11_output rfl hM8 (by decide) (by omega) hC rfl (by decide) ⟨hcn, hsn⟩ (Nat.le_of_ble_eq_true rfl) rfl (fun r9 z9 M2 hp9 => ?_)
  obtain ⟨rfl, rfl, ⟨fs2, hO2⟩, hD⟩ := hp9
  refine lz_aloadn (pc := 746) 2 (hz_dec kL7 38 rfl) rfl ?_
  refine lz_sk (pc := 747) (i := i + 1) 0 (hz_dec kL7 39 rfl) (hz_dec kL7 40 rfl) (hz_dec kL7 41 rfl) (kv := nI 1) (by decide) (hz_dec kL7 42 rfl) (hz_dec kL7 43 rfl) rfl (nI_add i 1) (by omega) (by omega) ?_
  refine lz_i2l (pc := 752) (hz_dec kL7 44 rfl) ?_
  refine lz_bipush (pc := 753) (v := nI 32) (hz_dec kL7 45 rfl) (by decide) ?_
  refine lz_lshl (pc := 755) (hz_dec kL7 46 rfl) ?_
  refine lz_sk (pc := 756) (i := i + 2) 0 (hz_dec kL7 47 rfl) (hz_dec kL7 48 rfl) (hz_dec kL7 49 rfl) (kv := nI 2) (by decide) (hz_dec kL7 50 rfl) (hz_dec kL7 51 rfl) rfl (nI_add i 2) (by omega) (by omega) ?_
  refine lz_i2l (pc := 761) (hz_dec kL7 52 rfl) ?_
  refine lz_ldc2 (pc := 762) (hz_dec kL7 53 rfl) ks_L_41 ?_
  refine lz_land (pc := 765) (hz_dec kL7 54 rfl) ?_
  refine lz_lor (pc := 766) (hz_dec kL7 55 rfl) ?_
  refine lz_sk (pc := 767) (i := i + 3) 0 (hz_dec kL7 56 rfl) (hz_dec kL7 57 rfl) (hz_dec kL7 58 rfl) (kv := nI 3) (by decide) (hz_dec kL7 59 rfl) (hz_dec kL8 0 rfl) rfl (nI_add i 3) (by omega) (by omega) ?_
  refine lz_i2l (pc := 772) (hz_dec kL8 1 rfl) ?_
  refine lz_bipush (pc := 773) (v := nI 32) (hz_dec kL8 2 rfl) (by decide) ?_
  refine lz_lshl (pc := 775) (hz_dec kL8 3 rfl) ?_
  refine lz_sk (pc := 776) (i := i + 4) 0 (hz_dec kL8 4 rfl) (hz_dec kL8 5 rfl) (hz_dec kL8 6 rfl) (kv := nI 4) (by decide) (hz_dec kL8 7 rfl) (hz_dec kL8 8 rfl) rfl (nI_add i 4) (by omega) (by omega) ?_
  refine lz_i2l (pc := 781) (hz_dec kL8 9 rfl) ?_
  refine lz_ldc2 (pc := 782) (hz_dec kL8 10 rfl) ks_L_41 ?_
  refine lz_land (pc := 785) (hz_dec kL8 11 rfl) ?_
  refine lz_lor (pc := 786) (hz_dec kL8 12 rfl) ?_
  refine lz_callV (pc := 787) (a := B) (As := [.long ((((Int32.toInt64 (xs (i + 1))) <<< (Int32.toInt64 (nI 32) &&& 63)) ||| ((Int32.toInt64 (xs (i + 2))) &&& 4294967295))), .long ((((Int32.toInt64 (xs (i + 3))) <<< (Int32.toInt64 (nI 32) &&& 63)) ||| ((Int32.toInt64 (xs (i + 4))) &&& 4294967295)))]) (st := [.int an]) (hz_dec kL8 13 rfl) co_L_72 im_X12_output se_X12_output rfl hO2 (by omega) (by omega) hD rfl (by decide) ⟨hcn, hsn⟩ (Nat.le_of_ble_eq_true rfl) rfl (fun r9 z9 M3 hp9 => ?_)
  obtain ⟨rfl, rfl, H2, hI2⟩ := hp9
  exact lz_icmp_eq (pc := 790) (tgt := 1989) (hz_dec kL8 14 rfl) (by decide) (fun _ => K M3 H2 hI2) (fun q => absurd rfl q)
set_option maxHeartbeats 4000000 in
set_option maxRecDepth 100000 in
theorem lw_c10 {κ : hz_C} {bb_ L : Nat} {xs : Nat → Int32} {cn sn : Nat} (hcn : cn ≤ 600000) (hsn : sn ≤ 7302250) (hLs : L < 2 ^ 30) {i : Nat} (hi : i + 5 < L) {F : by_L} {z B : Nat} {M : hz_M} {H : ho_H} (hI : lawI F z B M H) (K : ∀ M2 H2, lawI F z B M2 H2 → lz_W κ bb_ L xs cn sn 1989 [(3, .int (nI i)), (1, .ref 8), (2, .ref B)] [] z M2) : lz_W κ bb_ L xs cn sn 795 [(3, .int (nI i)), (1, .ref 8), (2, .ref B)] [] z M := by
  obtain ⟨hB, hBz⟩ := hI.z
  obtain ⟨fs8, hM8⟩ := hI.c
  obtain ⟨an, hC⟩ := ok_use (κ := κ) (as := [.long ((((Int32.toInt64 (xs (i + 1))) <<< (Int32.toInt64 (nI 32) &&& 63)) ||| ((Int32.toInt64 (xs (i + 2))) &&& 4294967295))), .long ((((Int32.toInt64 (xs (i + 3))) <<< (Int32.toInt64 (nI 32) &&& 63)) ||| ((Int32.toInt64 (xs (i + 4))) &&& 4294967295)))]) k_pay hI
  refine lz_aloadn (pc := 795) 1 (hz_dec kL8 17 rfl) rfl ?_
  refine lz_sk (pc := 796) (i := i + 1) 0 (hz_dec kL8 18 rfl) (hz_dec kL8 19 rfl) (hz_dec kL8 20 rfl) (kv := nI 1) (by decide) (hz_dec kL8 21 rfl) (hz_dec kL8 22 rfl) rfl (nI_add i 1) (by omega) (by omega) ?_
  refine lz_i2l (pc := 801) (hz_dec kL8 23 rfl) ?_
  refine lz_bipush (pc := 802) (v := nI 32) (hz_dec kL8 24 rfl) (by decide) ?_
  refine lz_lshl (pc := 804) (hz_dec kL8 25 rfl) ?_
  refine lz_sk (pc := 805) (i := i + 2) 0 (hz_dec kL8 26 rfl) (hz_dec kL8 27 rfl) (hz_dec kL8 28 rfl) (kv := nI 2) (by decide) (hz_dec kL8 29 rfl) (hz_dec kL8 30 rfl) rfl (nI_add i 2) (by omega) (by omega) ?_
  refine lz_i2l (pc := 810) (hz_dec kL8 31 rfl) ?_
  refine lz_ldc2 (pc := 811) (hz_dec kL8 32 rfl) ks_L_41 ?_
  refine lz_land (pc := 814) (hz_dec kL8 33 rfl) ?_
  refine lz_lor (pc := 815) (hz_dec kL8 34 rfl) ?_
  refine lz_sk (pc := 816) (i := i + 3) 0 (hz_dec kL8 35 rfl) (hz_dec kL8 36 rfl) (hz_dec kL8 37 rfl) (kv := nI 3) (by decide) (hz_dec kL8 38 rfl) (hz_dec kL8 39 rfl) rfl (nI_add i 3) (by omega) (by omega) ?_
  refine lz_i2l (pc := 821) (hz_dec kL8 40 rfl) ?_
  refine lz_bipush (pc := 822) (v := nI 32) (hz_dec kL8 41 rfl) (by decide) ?_
  refine lz_lshl (pc := 824) (hz_dec kL8 42 rfl) ?_
  refine lz_sk (pc := 825) (i := i + 4) 0 (hz_dec kL8 43 rfl) (hz_dec kL8 44 rfl) (hz_dec kL8 45 rfl) (kv := nI 4) (by decide) (hz_dec kL8 46 rfl) (hz_dec kL8 47 rfl) rfl (nI_add i 4) (by omega) (by omega) ?_
  refine lz_i2l (pc := 830) (hz_dec kL8 48 rfl) ?_
  refine lz_ldc2 (pc := 831) (hz_dec kL8 49 rfl) ks_L_41 ?_
  refine lz_land (pc := 834) (hz_dec kL8 50 rfl) ?_
  refine lz_lor (pc := 835) (hz_dec kL8 51 rfl) ?_
  refine lz_callV (pc := 836) (a := 8) (As := [.long ((((Int32.toInt64 (xs (i + 1))) <<< (Int32.toInt64 (nI 32) &&& 63)) ||| ((Int32.toInt64 (xs (i + 2))) &&& 4294967295))), .long ((((Int32.toInt64 (xs (i + 3))) <<< (Int32.toInt64 (nI 32) &&& 63)) ||| ((Int32.toInt64 (xs (i + 4))) &&& 4294967295)))]) (st := []) (hz_dec kL8 52 rfl) co_L_73 im_X11_pay se_X11_pay rfl hM8 (by decide) (by omega) hC rfl (by decide) ⟨hcn, hsn⟩ (Nat.le_of_ble_eq_true rfl) rfl (fun r9 z9 M2 hp9 => ?_)
  obtain ⟨rfl, rfl, ⟨fs2, hO2⟩, hD⟩ := hp9
  refine lz_aloadn (pc := 839) 2 (hz_dec kL8 53 rfl) rfl ?_
  refine lz_sk (pc := 840) (i := i + 1) 0 (hz_dec kL8 54 rfl) (hz_dec kL8 55 rfl) (hz_dec kL8 56 rfl) (kv := nI 1) (by decide) (hz_dec kL8 57 rfl) (hz_dec kL8 58 rfl) rfl (nI_add i 1) (by omega) (by omega) ?_
  refine lz_i2l (pc := 845) (hz_dec kL8 59 rfl) ?_
  refine lz_bipush (pc := 846) (v := nI 32) (hz_dec kL9 0 rfl) (by decide) ?_
  refine lz_lshl (pc := 848) (hz_dec kL9 1 rfl) ?_
  refine lz_sk (pc := 849) (i := i + 2) 0 (hz_dec kL9 2 rfl) (hz_dec kL9 3 rfl) (hz_dec kL9 4 rfl) (kv := nI 2) (by decide) (hz_dec kL9 5 rfl) (hz_dec kL9 6 rfl) rfl (nI_add i 2) (by omega) (by omega) ?_
  refine lz_i2l (pc := 854) (hz_dec kL9 7 rfl) ?_
  refine lz_ldc2 (pc := 855) (hz_dec kL9 8 rfl) ks_L_41 ?_
  refine lz_land (pc := 858) (hz_dec kL9 9 rfl) ?_
  refine lz_lor (pc := 859) (hz_dec kL9 10 rfl) ?_
  refine lz_sk (pc := 860) (i := i + 3) 0 (hz_dec kL9 11 rfl) (hz_dec kL9 12 rfl) (hz_dec kL9 13 rfl) (kv := nI 3) (by decide) (hz_dec kL9 14 rfl) (hz_dec kL9 15 rfl) rfl (nI_add i 3) (by omega) (by omega) ?_
  refine lz_i2l (pc := 865) (hz_dec kL9 16 rfl) ?_
  refine lz_bipush (pc := 866) (v := nI 32) (hz_dec kL9 17 rfl) (by decide) ?_
  refine lz_lshl (pc := 868) (hz_dec kL9 18 rfl) ?_
  refine lz_sk (pc := 869) (i := i + 4) 0 (hz_dec kL9 19 rfl) (hz_dec kL9 20 rfl) (hz_dec kL9 21 rfl) (kv := nI 4) (by decide) (hz_dec kL9 22 rfl) (hz_dec kL9 23 rfl) rfl (nI_add i 4) (by omega) (by omega) ?_
  refine lz_i2l (pc := 874) (hz_dec kL9 24 rfl) ?_
  refine lz_ldc2 (pc := 875) (hz_dec kL9 25 rfl) ks_L_41 ?_
  refine lz_land (pc := 878) (hz_dec kL9 26 rfl) ?_
  refine lz_lor (pc := 879) (hz_dec kL9 27 rfl) ?_
  refine lz_callV (pc := 880) (a := B) (As := [.long ((((Int32.toInt64 (xs (i + 1))) <<< (Int32.toInt64 (nI 32) &&& 63)) ||| ((Int32.toInt64 (xs (i + 2))) &&& 4294967295))), .long ((((Int32.toInt64 (xs (i + 3))) <<< (Int32.toInt64 (nI 32) &&& 63)) ||| ((Int32.toInt64 (xs (i + 4))) &&& 4294967295)))]) (st := [.int an]) (hz_dec kL9 28 rfl) co_L_76 im_X12_pay se_X12_pay rfl hO2 (by omega) (by omega) hD rfl (by decide) ⟨hcn, hsn⟩ (Nat.le_of_ble_eq_true rfl) rfl (fun r9 z9 M3 hp9 => ?_)
  obtain ⟨rfl, rfl, H2, hI2⟩ := hp9
  exact lz_icmp_eq (pc := 883) (tgt := 1989) (hz_dec kL9 29 rfl) (by decide) (fun _ => K M3 H2 hI2) (fun q => absurd rfl q)
set_option maxHeartbeats 4000000 in
set_option maxRecDepth 100000 in
theorem lw_c11 {κ : hz_C} {bb_ L : Nat} {xs : Nat → Int32} {cn sn : Nat} (hcn : cn ≤ 600000) (hsn : sn ≤ 7302250) (hLs : L < 2 ^ 30) {i : Nat} (hi : i + 5 < L) {F : by_L} {z B : Nat} {M : hz_M} {H : ho_H} (hI : lawI F z B M H) (K : ∀ M2 H2, lawI F z B M2 H2 → lz_W κ bb_ L xs cn sn 1989 [(3, .int (nI i)), (1, .ref 8), (2, .ref B)] [] z M2) : lz_W κ bb_ L xs cn sn 888 [(3, .int (nI i)), (1, .ref 8), (2, .ref B)] [] z M := by
  obtain ⟨hB, hBz⟩ := hI.z
  obtain ⟨fs8, hM8⟩ := hI.c
  obtain ⟨an, hC⟩ := ok_use (κ := κ) (as := [.int (xs (i + 1))]) k_sign hI
  refine lz_aloadn (pc := 888) 1 (hz_dec kL9 32 rfl) rfl ?_
  refine lz_sk (pc := 889) (i := i + 1) 0 (hz_dec kL9 33 rfl) (hz_dec kL9 34 rfl) (hz_dec kL9 35 rfl) (kv := nI 1) (by decide) (hz_dec kL9 36 rfl) (hz_dec kL9 37 rfl) rfl (nI_add i 1) (by omega) (by omega) ?_
  refine lz_callV (pc := 894) (a := 8) (As := [.int (xs (i + 1))]) (st := []) (hz_dec kL9 38 rfl) co_L_77 im_X11_sign se_X11_sign rfl hM8 (by decide) (by omega) hC rfl (by decide) ⟨hcn, hsn⟩ (Nat.le_of_ble_eq_true rfl) rfl (fun r9 z9 M2 hp9 => ?_)
  obtain ⟨rfl, rfl, ⟨fs2, hO2⟩, hD⟩ := hp9
  refine lz_aloadn (pc := 897) 2 (hz_dec kL9 39 rfl) rfl ?_
  refine lz_sk (pc := 898) (i := i + 1) 0 (hz_dec kL9 40 rfl) (hz_dec kL9 41 rfl) (hz_dec kL9 42 rfl) (kv := nI 1) (by decide) (hz_dec kL9 43 rfl) (hz_dec kL9 44 rfl) rfl (nI_add i 1) (by omega) (by omega) ?_
  refine lz_callV (pc := 903) (a := B) (As := [.int (xs (i + 1))]) (st := [.int an]) (hz_dec kL9 45 rfl) co_L_80 im_X12_sign se_X12_sign rfl hO2 (by omega) (by omega) hD rfl (by decide) ⟨hcn, hsn⟩ (Nat.le_of_ble_eq_true rfl) rfl (fun r9 z9 M3 hp9 => ?_)
  obtain ⟨rfl, rfl, H2, hI2⟩ := hp9
  exact lz_icmp_eq (pc := 906) (tgt := 1989) (hz_dec kL9 46 rfl) (by decide) (fun _ => K M3 H2 hI2) (fun q => absurd rfl q)
set_option maxHeartbeats 4000000 in
set_option maxRecDepth 100000 in
theorem lw_c12 {κ : hz_C} {bb_ L : Nat} {xs : Nat → Int32} {cn sn : Nat} (hcn : cn ≤ 600000) (hsn : sn ≤ 7302250) (hLs : L < 2 ^ 30) {i : Nat} (hi : i + 5 < L) {F : by_L} {z B : Nat} {M : hz_M} {H : ho_H} (hI : lawI F z B M H) (K : ∀ M2 H2, lawI F z B M2 H2 → lz_W κ bb_ L xs cn sn 1989 [(3, .int (nI i)), (1, .ref 8), (2, .ref B)] [] z M2) : lz_W κ bb_ L xs cn sn 911 [(3, .int (nI i)), (1, .ref 8), (2, .ref B)] [] z M := by
  obtain ⟨hB, hBz⟩ := hI.z
  obtain ⟨fs8, hM8⟩ := hI.c
  obtain ⟨an, hC⟩ := ok_use (κ := κ) (as := [.int (xs (i + 1)), .int (xs (i + 2))]) k_take hI
  refine lz_aloadn (pc := 911) 1 (hz_dec kL9 49 rfl) rfl ?_
  refine lz_sk (pc := 912) (i := i + 1) 0 (hz_dec kL9 50 rfl) (hz_dec kL9 51 rfl) (hz_dec kL9 52 rfl) (kv := nI 1) (by decide) (hz_dec kL9 53 rfl) (hz_dec kL9 54 rfl) rfl (nI_add i 1) (by omega) (by omega) ?_
  refine lz_sk (pc := 917) (i := i + 2) 0 (hz_dec kL9 55 rfl) (hz_dec kL9 56 rfl) (hz_dec kL9 57 rfl) (kv := nI 2) (by decide) (hz_dec kL9 58 rfl) (hz_dec kL9 59 rfl) rfl (nI_add i 2) (by omega) (by omega) ?_
  refine lz_callV (pc := 922) (a := 8) (As := [.int (xs (i + 1)), .int (xs (i + 2))]) (st := []) (hz_dec kL10 0 rfl) co_L_81 im_X11_take se_X11_take rfl hM8 (by decide) (by omega) hC rfl (by decide) ⟨hcn, hsn⟩ (Nat.le_of_ble_eq_true rfl) rfl (fun r9 z9 M2 hp9 => ?_)
  obtain ⟨rfl, rfl, ⟨fs2, hO2⟩, hD⟩ := hp9
  refine lz_aloadn (pc := 925) 2 (hz_dec kL10 1 rfl) rfl ?_
  refine lz_sk (pc := 926) (i := i + 1) 0 (hz_dec kL10 2 rfl) (hz_dec kL10 3 rfl) (hz_dec kL10 4 rfl) (kv := nI 1) (by decide) (hz_dec kL10 5 rfl) (hz_dec kL10 6 rfl) rfl (nI_add i 1) (by omega) (by omega) ?_
  refine lz_sk (pc := 931) (i := i + 2) 0 (hz_dec kL10 7 rfl) (hz_dec kL10 8 rfl) (hz_dec kL10 9 rfl) (kv := nI 2) (by decide) (hz_dec kL10 10 rfl) (hz_dec kL10 11 rfl) rfl (nI_add i 2) (by omega) (by omega) ?_
  refine lz_callV (pc := 936) (a := B) (As := [.int (xs (i + 1)), .int (xs (i + 2))]) (st := [.int an]) (hz_dec kL10 12 rfl) co_L_84 im_X12_take se_X12_take rfl hO2 (by omega) (by omega) hD rfl (by decide) ⟨hcn, hsn⟩ (Nat.le_of_ble_eq_true rfl) rfl (fun r9 z9 M3 hp9 => ?_)
  obtain ⟨rfl, rfl, H2, hI2⟩ := hp9
  exact lz_icmp_eq (pc := 939) (tgt := 1989) (hz_dec kL10 13 rfl) (by decide) (fun _ => K M3 H2 hI2) (fun q => absurd rfl q)
set_option maxHeartbeats 4000000 in
set_option maxRecDepth 100000 in
theorem lw_c13 {κ : hz_C} {bb_ L : Nat} {xs : Nat → Int32} {cn sn : Nat} (hcn : cn ≤ 600000) (hsn : sn ≤ 7302250) (hLs : L < 2 ^ 30) {i : Nat} (hi : i + 5 < L) {F : by_L} {z B : Nat} {M : hz_M} {H : ho_H} (hI : lawI F z B M H) (K : ∀ M2 H2, lawI F z B M2 H2 → lz_W κ bb_ L xs cn sn 1989 [(3, .int (nI i)), (1, .ref 8), (2, .ref B)] [] z M2) : lz_W κ bb_ L xs cn sn 944 [(3, .int (nI i)), (1, .ref 8), (2, .ref B)] [] z M := by
  obtain ⟨hB, hBz⟩ := hI.z
  obtain ⟨fs8, hM8⟩ := hI.c
  obtain ⟨an, hC⟩ := ok_use (κ := κ) (as := [.int (xs (i + 1)), .long ((((Int32.toInt64 (xs (i + 2))) <<< (Int32.toInt64 (nI 32) &&& 63)) ||| ((Int32.toInt64 (xs (i + 3))) &&& 4294967295))), .int (xs (i + 4))]) k_assemble hI
  refine lz_aloadn (pc := 944) 1 (hz_dec kL10 16 rfl) rfl ?_
  refine lz_sk (pc := 945) (i := i + 1) 0 (hz_dec kL10 17 rfl) (hz_dec kL10 18 rfl) (hz_dec kL10 19 rfl) (kv := nI 1) (by decide) (hz_dec kL10 20 rfl) (hz_dec kL10 21 rfl) rfl (nI_add i 1) (by omega) (by omega) ?_
  refine lz_sk (pc := 950) (i := i + 2) 0 (hz_dec kL10 22 rfl) (hz_dec kL10 23 rfl) (hz_dec kL10 24 rfl) (kv := nI 2) (by decide) (hz_dec kL10 25 rfl) (hz_dec kL10 26 rfl) rfl (nI_add i 2) (by omega) (by omega) ?_
  refine lz_i2l (pc := 955) (hz_dec kL10 27 rfl) ?_
  refine lz_bipush (pc := 956) (v := nI 32) (hz_dec kL10 28 rfl) (by decide) ?_
  refine lz_lshl (pc := 958) (hz_dec kL10 29 rfl) ?_
  refine lz_sk (pc := 959) (i := i + 3) 0 (hz_dec kL10 30 rfl) (hz_dec kL10 31 rfl) (hz_dec kL10 32 rfl) (kv := nI 3) (by decide) (hz_dec kL10 33 rfl) (hz_dec kL10 34 rfl) rfl (nI_add i 3) (by omega) (by omega) ?_
  refine lz_i2l (pc := 964) (hz_dec kL10 35 rfl) ?_
  refine lz_ldc2 (pc := 965) (hz_dec kL10 36 rfl) ks_L_41 ?_
  refine lz_land (pc := 968) (hz_dec kL10 37 rfl) ?_
  refine lz_lor (pc := 969) (hz_dec kL10 38 rfl) ?_
  refine lz_sk (pc := 970) (i := i + 4) 0 (hz_dec kL10 39 rfl) (hz_dec kL10 40 rfl) (hz_dec kL10 41 rfl) (kv := nI 4) (by decide) (hz_dec kL10 42 rfl) (hz_dec kL10 43 rfl) rfl (nI_add i 4) (by omega) (by omega) ?_
  refine lz_callV (pc := 975) (a := 8) (As := [.int (xs (i + 1)), .long ((((Int32.toInt64 (xs (i + 2))) <<< (Int32.toInt64 (nI 32) &&& 63)) ||| ((Int32.toInt64 (xs (i + 3))) &&& 4294967295))), .int (xs (i + 4))]) (st := []) (hz_dec kL10 44 rfl) co_L_85 im_X11_assemble se_X11_assemble rfl hM8 (by decide) (by omega) hC rfl (by decide) ⟨hcn, hsn⟩ (Nat.le_of_ble_eq_true rfl) rfl (fun r9 z9 M2 hp9 => ?_)
  obtain ⟨rfl, rfl, ⟨fs2, hO2⟩, hD⟩ := hp9
  refine lz_aloadn (pc := 978) 2 (hz_dec kL10 45 rfl) rfl ?_
  refine lz_sk (pc := 979) (i := i + 1) 0 (hz_dec kL10 46 rfl) (hz_dec kL10 47 rfl) (hz_dec kL10 48 rfl) (kv := nI 1) (by decide) (hz_dec kL10 49 rfl) (hz_dec kL10 50 rfl) rfl (nI_add i 1) (by omega) (by omega) ?_
  refine lz_sk (pc := 984) (i := i + 2) 0 (hz_dec kL10 51 rfl) (hz_dec kL10 52 rfl) (hz_dec kL10 53 rfl) (kv := nI 2) (by decide) (hz_dec kL10 54 rfl) (hz_dec kL10 55 rfl) rfl (nI_add i 2) (by omega) (by omega) ?_
  refine lz_i2l (pc := 989) (hz_dec kL10 56 rfl) ?_
  refine lz_bipush (pc := 990) (v := nI 32) (hz_dec kL10 57 rfl) (by decide) ?_
  refine lz_lshl (pc := 992) (hz_dec kL10 58 rfl) ?_
  refine lz_sk (pc := 993) (i := i + 3) 0 (hz_dec kL10 59 rfl) (hz_dec kL11 0 rfl) (hz_dec kL11 1 rfl) (kv := nI 3) (by decide) (hz_dec kL11 2 rfl) (hz_dec kL11 3 rfl) rfl (nI_add i 3) (by omega) (by omega) ?_
  refine lz_i2l (pc := 998) (hz_dec kL11 4 rfl) ?_
  refine lz_ldc2 (pc := 999) (hz_dec kL11 5 rfl) ks_L_41 ?_
  refine lz_land (pc := 1002) (hz_dec kL11 6 rfl) ?_
  refine lz_lor (pc := 1003) (hz_dec kL11 7 rfl) ?_
  refine lz_sk (pc := 1004) (i := i + 4) 0 (hz_dec kL11 8 rfl) (hz_dec kL11 9 rfl) (hz_dec kL11 10 rfl) (kv := nI 4) (by decide) (hz_dec kL11 11 rfl) (hz_dec kL11 12 rfl) rfl (nI_add i 4) (by omega) (by omega) ?_
  refine lz_callV (pc := 1009) (a := B) (As := [.int (xs (i + 1)), .long ((((Int32.toInt64 (xs (i + 2))) <<< (Int32.toInt64 (nI 32) &&& 63)) ||| ((Int32.toInt64 (xs (i + 3))) &&& 4294967295))), .int (xs (i + 4))]) (st := [.int an]) (hz_dec kL11 13 rfl) co_L_89 im_X12_assemble se_X12_assemble rfl hO2 (by omega) (by omega) hD rfl (by decide) ⟨hcn, hsn⟩ (Nat.le_of_ble_eq_true rfl) rfl (fun r9 z9 M3 hp9 => ?_)
  obtain ⟨rfl, rfl, H2, hI2⟩ := hp9
  exact lz_icmp_eq (pc := 1012) (tgt := 1989) (hz_dec kL11 14 rfl) (by decide) (fun _ => K M3 H2 hI2) (fun q => absurd rfl q)
set_option maxHeartbeats 4000000 in
set_option maxRecDepth 100000 in
theorem lw_c14 {κ : hz_C} {bb_ L : Nat} {xs : Nat → Int32} {cn sn : Nat} (hcn : cn ≤ 600000) (hsn : sn ≤ 7302250) (hLs : L < 2 ^ 30) {i : Nat} (hi : i + 5 < L) {F : by_L} {z B : Nat} {M : hz_M} {H : ho_H} (hI : lawI F z B M H) (K : ∀ M2 H2, lawI F z B M2 H2 → lz_W κ bb_ L xs cn sn 1989 [(3, .int (nI i)), (1, .ref 8), (2, .ref B)] [] z M2) : lz_W κ bb_ L xs cn sn 1017 [(3, .int (nI i)), (1, .ref 8), (2, .ref B)] [] z M := by
  obtain ⟨hB, hBz⟩ := hI.z
  obtain ⟨fs8, hM8⟩ := hI.c
  obtain ⟨an, hC⟩ := ok_use (κ := κ) (as := []) k_root hI
  refine lz_aloadn (pc := 1017) 1 (hz_dec kL11 17 rfl) rfl ?_
  refine lz_callV (pc := 1018) (a := 8) (As := []) (st := []) (hz_dec kL11 18 rfl) co_L_90 im_X11_root se_X11_root rfl hM8 (by decide) (by omega) hC rfl (by decide) ⟨hcn, hsn⟩ (Nat.le_of_ble_eq_true rfl) rfl (fun r9 z9 M2 hp9 => ?_)
  obtain ⟨rfl, rfl, ⟨fs2, hO2⟩, hD⟩ := hp9
  refine lz_aloadn (pc := 1021) 2 (hz_dec kL11 19 rfl) rfl ?_
  refine lz_callV (pc := 1022) (a := B) (As := []) (st := [.int an]) (hz_dec kL11 20 rfl) co_L_93 im_X12_root se_X12_root rfl hO2 (by omega) (by omega) hD rfl (by decide) ⟨hcn, hsn⟩ (Nat.le_of_ble_eq_true rfl) rfl (fun r9 z9 M3 hp9 => ?_)
  obtain ⟨rfl, rfl, H2, hI2⟩ := hp9
  exact lz_icmp_eq (pc := 1025) (tgt := 1989) (hz_dec kL11 21 rfl) (by decide) (fun _ => K M3 H2 hI2) (fun q => absurd rfl q)
set_option maxHeartbeats 4000000 in
set_option maxRecDepth 100000 in
theorem lw_c15 {κ : hz_C} {bb_ L : Nat} {xs : Nat → Int32} {cn sn : Nat} (hcn : cn ≤ 600000) (hsn : sn ≤ 7302250) (hLs : L < 2 ^ 30) {i : Nat} (hi : i + 5 < L) {F : by_L} {z B : Nat} {M : hz_M} {H : ho_H} (hI : lawI F z B M H) (K : ∀ M2 H2, lawI F z B M2 H2 → lz_W κ bb_ L xs cn sn 1989 [(3, .int (nI i)), (1, .ref 8), (2, .ref B)] [] z M2) : lz_W κ bb_ L xs cn sn 1030 [(3, .int (nI i)), (1, .ref 8), (2, .ref B)] [] z M := by
  obtain ⟨hB, hBz⟩ := hI.z
  obtain ⟨fs8, hM8⟩ := hI.c
  obtain ⟨an, hC⟩ := ok_use (κ := κ) (as := [.long ((((Int32.toInt64 (xs (i + 1))) <<< (Int32.toInt64 (nI 32) &&& 63)) ||| ((Int32.toInt64 (xs (i + 2))) &&& 4294967295))), .int (xs (i + 3))]) k_solve hI
  refine lz_aloadn (pc := 1030) 1 (hz_dec kL11 24 rfl) rfl ?_
  refine lz_sk (pc := 1031) (i := i + 1) 0 (hz_dec kL11 25 rfl) (hz_dec kL11 26 rfl) (hz_dec kL11 27 rfl) (kv := nI 1) (by decide) (hz_dec kL11 28 rfl) (hz_dec kL11 29 rfl) rfl (nI_add i 1) (by omega) (by omega) ?_
  refine lz_i2l (pc := 1036) (hz_dec kL11 30 rfl) ?_
  refine lz_bipush (pc := 1037) (v := nI 32) (hz_dec kL11 31 rfl) (by decide) ?_
  refine lz_lshl (pc := 1039) (hz_dec kL11 32 rfl) ?_
  refine lz_sk (pc := 1040) (i := i + 2) 0 (hz_dec kL11 33 rfl) (hz_dec kL11 34 rfl) (hz_dec kL11 35 rfl) (kv := nI 2) (by decide) (hz_dec kL11 36 rfl) (hz_dec kL11 37 rfl) rfl (nI_add i 2) (by omega) (by omega) ?_
  refine lz_i2l (pc := 1045) (hz_dec kL11 38 rfl) ?_
  refine lz_ldc2 (pc := 1046) (hz_dec kL11 39 rfl) ks_L_41 ?_
  refine lz_land (pc := 1049) (hz_dec kL11 40 rfl) ?_
  refine lz_lor (pc := 1050) (hz_dec kL11 41 rfl) ?_
  refine lz_sk (pc := 1051) (i := i + 3) 0 (hz_dec kL11 42 rfl) (hz_dec kL11 43 rfl) (hz_dec kL11 44 rfl) (kv := nI 3) (by decide) (hz_dec kL11 45 rfl) (hz_dec kL11 46 rfl) rfl (nI_add i 3) (by omega) (by omega) ?_
  refine lz_callV (pc := 1056) (a := 8) (As := [.long ((((Int32.toInt64 (xs (i + 1))) <<< (Int32.toInt64 (nI 32) &&& 63)) ||| ((Int32.toInt64 (xs (i + 2))) &&& 4294967295))), .int (xs (i + 3))]) (st := []) (hz_dec kL11 47 rfl) co_L_94 im_X11_solve se_X11_solve rfl hM8 (by decide) (by omega) hC rfl (by decide) ⟨hcn, hsn⟩ (Nat.le_of_ble_eq_true rfl) rfl (fun r9 z9 M2 hp9 => ?_)
  obtain ⟨rfl, rfl, ⟨fs2, hO2⟩, hD⟩ := hp9
  refine lz_aloadn (pc := 1059) 2 (hz_dec kL11 48 rfl) rfl ?_
  refine lz_sk (pc := 1060) (i := i + 1) 0 (hz_dec kL11 49 rfl) (hz_dec kL11 50 rfl) (hz_dec kL11 51 rfl) (kv := nI 1) (by decide) (hz_dec kL11 52 rfl) (hz_dec kL11 53 rfl) rfl (nI_add i 1) (by omega) (by omega) ?_
  refine lz_i2l (pc := 1065) (hz_dec kL11 54 rfl) ?_
  refine lz_bipush (pc := 1066) (v := nI 32) (hz_dec kL11 55 rfl) (by decide) ?_
  refine lz_lshl (pc := 1068) (hz_dec kL11 56 rfl) ?_
  refine lz_sk (pc := 1069) (i := i + 2) 0 (hz_dec kL11 57 rfl) (hz_dec kL11 58 rfl) (hz_dec kL11 59 rfl) (kv := nI 2) (by decide) (hz_dec kL12 0 rfl) (hz_dec kL12 1 rfl) rfl (nI_add i 2) (by omega) (by omega) ?_
  refine lz_i2l (pc := 1074) (hz_dec kL12 2 rfl) ?_
  refine lz_ldc2 (pc := 1075) (hz_dec kL12 3 rfl) ks_L_41 ?_
  refine lz_land (pc := 1078) (hz_dec kL12 4 rfl) ?_
  refine lz_lor (pc := 1079) (hz_dec kL12 5 rfl) ?_
  refine lz_sk (pc := 1080) (i := i + 3) 0 (hz_dec kL12 6 rfl) (hz_dec kL12 7 rfl) (hz_dec kL12 8 rfl) (kv := nI 3) (by decide) (hz_dec kL12 9 rfl) (hz_dec kL12 10 rfl) rfl (nI_add i 3) (by omega) (by omega) ?_
  refine lz_callV (pc := 1085) (a := B) (As := [.long ((((Int32.toInt64 (xs (i + 1))) <<< (Int32.toInt64 (nI 32) &&& 63)) ||| ((Int32.toInt64 (xs (i + 2))) &&& 4294967295))), .int (xs (i + 3))]) (st := [.int an]) (hz_dec kL12 11 rfl) co_L_98 im_X12_solve se_X12_solve rfl hO2 (by omega) (by omega) hD rfl (by decide) ⟨hcn, hsn⟩ (Nat.le_of_ble_eq_true rfl) rfl (fun r9 z9 M3 hp9 => ?_)
  obtain ⟨rfl, rfl, H2, hI2⟩ := hp9
  exact lz_icmp_eq (pc := 1088) (tgt := 1989) (hz_dec kL12 12 rfl) (by decide) (fun _ => K M3 H2 hI2) (fun q => absurd rfl q)
set_option maxHeartbeats 4000000 in
set_option maxRecDepth 100000 in
theorem lw_c16 {κ : hz_C} {bb_ L : Nat} {xs : Nat → Int32} {cn sn : Nat} (hcn : cn ≤ 600000) (hsn : sn ≤ 7302250) (hLs : L < 2 ^ 30) {i : Nat} (hi : i + 5 < L) {F : by_L} {z B : Nat} {M : hz_M} {H : ho_H} (hI : lawI F z B M H) (K : ∀ M2 H2, lawI F z B M2 H2 → lz_W κ bb_ L xs cn sn 1989 [(3, .int (nI i)), (1, .ref 8), (2, .ref B)] [] z M2) : lz_W κ bb_ L xs cn sn 1093 [(3, .int (nI i)), (1, .ref 8), (2, .ref B)] [] z M := by
  obtain ⟨hB, hBz⟩ := hI.z
  obtain ⟨fs8, hM8⟩ := hI.c
  obtain ⟨an, hC⟩ := ok_use (κ := κ) (as := [.int (xs (i + 1)), .int (xs (i + 2))]) k_judge hI
  refine lz_aloadn (pc := 1093) 1 (hz_dec kL12 15 rfl) rfl ?_
  refine lz_sk (pc := 1094) (i := i + 1) 0 (hz_dec kL12 16 rfl) (hz_dec kL12 17 rfl) (hz_dec kL12 18 rfl) (kv := nI 1) (by decide) (hz_dec kL12 19 rfl) (hz_dec kL12 20 rfl) rfl (nI_add i 1) (by omega) (by omega) ?_
  refine lz_sk (pc := 1099) (i := i + 2) 0 (hz_dec kL12 21 rfl) (hz_dec kL12 22 rfl) (hz_dec kL12 23 rfl) (kv := nI 2) (by decide) (hz_dec kL12 24 rfl) (hz_dec kL12 25 rfl) rfl (nI_add i 2) (by omega) (by omega) ?_
  refine lz_callV (pc := 1104) (a := 8) (As := [.int (xs (i + 1)), .int (xs (i + 2))]) (st := []) (hz_dec kL12 26 rfl) co_L_99 im_X11_judge se_X11_judge rfl hM8 (by decide) (by omega) hC rfl (by decide) ⟨hcn, hsn⟩ (Nat.le_of_ble_eq_true rfl) rfl (fun r9 z9 M2 hp9 => ?_)
  obtain ⟨rfl, rfl, ⟨fs2, hO2⟩, hD⟩ := hp9
  refine lz_aloadn (pc := 1107) 2 (hz_dec kL12 27 rfl) rfl ?_
  refine lz_sk (pc := 1108) (i := i + 1) 0 (hz_dec kL12 28 rfl) (hz_dec kL12 29 rfl) (hz_dec kL12 30 rfl) (kv := nI 1) (by decide) (hz_dec kL12 31 rfl) (hz_dec kL12 32 rfl) rfl (nI_add i 1) (by omega) (by omega) ?_
  refine lz_sk (pc := 1113) (i := i + 2) 0 (hz_dec kL12 33 rfl) (hz_dec kL12 34 rfl) (hz_dec kL12 35 rfl) (kv := nI 2) (by decide) (hz_dec kL12 36 rfl) (hz_dec kL12 37 rfl) rfl (nI_add i 2) (by omega) (by omega) ?_
  refine lz_callV (pc := 1118) (a := B) (As := [.int (xs (i + 1)), .int (xs (i + 2))]) (st := [.int an]) (hz_dec kL12 38 rfl) co_L_102 im_X12_judge se_X12_judge rfl hO2 (by omega) (by omega) hD rfl (by decide) ⟨hcn, hsn⟩ (Nat.le_of_ble_eq_true rfl) rfl (fun r9 z9 M3 hp9 => ?_)
  obtain ⟨rfl, rfl, H2, hI2⟩ := hp9
  exact lz_icmp_eq (pc := 1121) (tgt := 1989) (hz_dec kL12 39 rfl) (by decide) (fun _ => K M3 H2 hI2) (fun q => absurd rfl q)
set_option maxHeartbeats 4000000 in
set_option maxRecDepth 100000 in
theorem lw_c17 {κ : hz_C} {bb_ L : Nat} {xs : Nat → Int32} {cn sn : Nat} (hcn : cn ≤ 600000) (hsn : sn ≤ 7302250) (hLs : L < 2 ^ 30) {i : Nat} (hi : i + 5 < L) {F : by_L} {z B : Nat} {M : hz_M} {H : ho_H} (hI : lawI F z B M H) (K : ∀ M2 H2, lawI F z B M2 H2 → lz_W κ bb_ L xs cn sn 1989 [(3, .int (nI i)), (1, .ref 8), (2, .ref B)] [] z M2) : lz_W κ bb_ L xs cn sn 1126 [(3, .int (nI i)), (1, .ref 8), (2, .ref B)] [] z M := by
  obtain ⟨hB, hBz⟩ := hI.z
  obtain ⟨fs8, hM8⟩ := hI.c
  obtain ⟨an, hC⟩ := ok_use (κ := κ) (as := [.int (xs (i + 1)), .int (xs (i + 2))]) k_give hI
  refine lz_aloadn (pc := 1126) 1 (hz_dec kL12 42 rfl) rfl ?_
  refine lz_sk (pc := 1127) (i := i + 1) 0 (hz_dec kL12 43 rfl) (hz_dec kL12 44 rfl) (hz_dec kL12 45 rfl) (kv := nI 1) (by decide) (hz_dec kL12 46 rfl) (hz_dec kL12 47 rfl) rfl (nI_add i 1) (by omega) (by omega) ?_
  refine lz_sk (pc := 1132) (i := i + 2) 0 (hz_dec kL12 48 rfl) (hz_dec kL12 49 rfl) (hz_dec kL12 50 rfl) (kv := nI 2) (by decide) (hz_dec kL12 51 rfl) (hz_dec kL12 52 rfl) rfl (nI_add i 2) (by omega) (by omega) ?_
  refine lz_callV (pc := 1137) (a := 8) (As := [.int (xs (i + 1)), .int (xs (i + 2))]) (st := []) (hz_dec kL12 53 rfl) co_L_103 im_X11_give se_X11_give rfl hM8 (by decide) (by omega) hC rfl (by decide) ⟨hcn, hsn⟩ (Nat.le_of_ble_eq_true rfl) rfl (fun r9 z9 M2 hp9 => ?_)
  obtain ⟨rfl, rfl, ⟨fs2, hO2⟩, hD⟩ := hp9
  refine lz_aloadn (pc := 1140) 2 (hz_dec kL12 54 rfl) rfl ?_
  refine lz_sk (pc := 1141) (i := i + 1) 0 (hz_dec kL12 55 rfl) (hz_dec kL12 56 rfl) (hz_dec kL12 57 rfl) (kv := nI 1) (by decide) (hz_dec kL12 58 rfl) (hz_dec kL12 59 rfl) rfl (nI_add i 1) (by omega) (by omega) ?_
  refine lz_sk (pc := 1146) (i := i + 2) 0 (hz_dec kL13 0 rfl) (hz_dec kL13 1 rfl) (hz_dec kL13 2 rfl) (kv := nI 2) (by decide) (hz_dec kL13 3 rfl) (hz_dec kL13 4 rfl) rfl (nI_add i 2) (by omega) (by omega) ?_
  refine lz_callV (pc := 1151) (a := B) (As := [.int (xs (i + 1)), .int (xs (i + 2))]) (st := [.int an]) (hz_dec kL13 5 rfl) co_L_106 im_X12_give se_X12_give rfl hO2 (by omega) (by omega) hD rfl (by decide) ⟨hcn, hsn⟩ (Nat.le_of_ble_eq_true rfl) rfl (fun r9 z9 M3 hp9 => ?_)
  obtain ⟨rfl, rfl, H2, hI2⟩ := hp9
  exact lz_icmp_eq (pc := 1154) (tgt := 1989) (hz_dec kL13 6 rfl) (by decide) (fun _ => K M3 H2 hI2) (fun q => absurd rfl q)
set_option maxHeartbeats 4000000 in
set_option maxRecDepth 100000 in
theorem lw_c18 {κ : hz_C} {bb_ L : Nat} {xs : Nat → Int32} {cn sn : Nat} (hcn : cn ≤ 600000) (hsn : sn ≤ 7302250) (hLs : L < 2 ^ 30) {i : Nat} (hi : i + 5 < L) {F : by_L} {z B : Nat} {M : hz_M} {H : ho_H} (hI : lawI F z B M H) (K : ∀ M2 H2, lawI F z B M2 H2 → lz_W κ bb_ L xs cn sn 1989 [(3, .int (nI i)), (1, .ref 8), (2, .ref B)] [] z M2) : lz_W κ bb_ L xs cn sn 1159 [(3, .int (nI i)), (1, .ref 8), (2, .ref B)] [] z M := by
  obtain ⟨hB, hBz⟩ := hI.z
  obtain ⟨fs8, hM8⟩ := hI.c
  obtain ⟨an, hC⟩ := ok_use (κ := κ) (as := [.int (xs (i + 1)), .int (xs (i + 2)), .int (xs (i + 3))]) k_post hI
  refine lz_aloadn (pc := 1159) 1 (hz_dec kL13 9 rfl) rfl ?_
  refine lz_sk (pc := 1160) (i := i + 1) 0 (hz_dec kL13 10 rfl) (hz_dec kL13 11 rfl) (hz_dec kL13 12 rfl) (kv := nI 1) (by decide) (hz_dec kL13 13 rfl) (hz_dec kL13 14 rfl) rfl (nI_add i 1) (by omega) (by omega) ?_
  refine lz_sk (pc := 1165) (i := i + 2) 0 (hz_dec kL13 15 rfl) (hz_dec kL13 16 rfl) (hz_dec kL13 17 rfl) (kv := nI 2) (by decide) (hz_dec kL13 18 rfl) (hz_dec kL13 19 rfl) rfl (nI_add i 2) (by omega) (by omega) ?_
  refine lz_sk (pc := 1170) (i := i + 3) 0 (hz_dec kL13 20 rfl) (hz_dec kL13 21 rfl) (hz_dec kL13 22 rfl) (kv := nI 3) (by decide) (hz_dec kL13 23 rfl) (hz_dec kL13 24 rfl) rfl (nI_add i 3) (by omega) (by omega) ?_
  refine lz_callV (pc := 1175) (a := 8) (As := [.int (xs (i + 1)), .int (xs (i + 2)), .int (xs (i + 3))]) (st := []) (hz_dec kL13 25 rfl) co_L_107 im_X11_post se_X11_post rfl hM8 (by decide) (by omega) hC rfl (by decide) ⟨hcn, hsn⟩ (Nat.le_of_ble_eq_true rfl) rfl (fun r9 z9 M2 hp9 => ?_)
  obtain ⟨rfl, rfl, ⟨fs2, hO2⟩, hD⟩ := hp9
  refine lz_aloadn (pc := 1178) 2 (hz_dec kL13 26 rfl) rfl ?_
  refine lz_sk (pc := 1179) (i := i + 1) 0 (hz_dec kL13 27 rfl) (hz_dec kL13 28 rfl) (hz_dec kL13 29 rfl) (kv := nI 1) (by decide) (hz_dec kL13 30 rfl) (hz_dec kL13 31 rfl) rfl (nI_add i 1) (by omega) (by omega) ?_
  refine lz_sk (pc := 1184) (i := i + 2) 0 (hz_dec kL13 32 rfl) (hz_dec kL13 33 rfl) (hz_dec kL13 34 rfl) (kv := nI 2) (by decide) (hz_dec kL13 35 rfl) (hz_dec kL13 36 rfl) rfl (nI_add i 2) (by omega) (by omega) ?_
  refine lz_sk (pc := 1189) (i := i + 3) 0 (hz_dec kL13 37 rfl) (hz_dec kL13 38 rfl) (hz_dec kL13 39 rfl) (kv := nI 3) (by decide) (hz_dec kL13 40 rfl) (hz_dec kL13 41 rfl) rfl (nI_add i 3) (by omega) (by omega) ?_
  refine lz_callV (pc := 1194) (a := B) (As := [.int (xs (i + 1)), .int (xs (i + 2)), .int (xs (i + 3))]) (st := [.int an]) (hz_dec kL13 42 rfl) co_L_111 im_X12_post se_X12_post rfl hO2 (by omega) (by omega) hD rfl (by decide) ⟨hcn, hsn⟩ (Nat.le_of_ble_eq_true rfl) rfl (fun r9 z9 M3 hp9 => ?_)
  obtain ⟨rfl, rfl, H2, hI2⟩ := hp9
  exact lz_icmp_eq (pc := 1197) (tgt := 1989) (hz_dec kL13 43 rfl) (by decide) (fun _ => K M3 H2 hI2) (fun q => absurd rfl q)
set_option maxHeartbeats 4000000 in
set_option maxRecDepth 100000 in
theorem lw_c19 {κ : hz_C} {bb_ L : Nat} {xs : Nat → Int32} {cn sn : Nat} (hcn : cn ≤ 600000) (hsn : sn ≤ 7302250) (hLs : L < 2 ^ 30) {i : Nat} (hi : i + 5 < L) {F : by_L} {z B : Nat} {M : hz_M} {H : ho_H} (hI : lawI F z B M H) (K : ∀ M2 H2, lawI F z B M2 H2 → lz_W κ bb_ L xs cn sn 1989 [(3, .int (nI i)), (1, .ref 8), (2, .ref B)] [] z M2) : lz_W κ bb_ L xs cn sn 1202 [(3, .int (nI i)), (1, .ref 8), (2, .ref B)] [] z M := by
  obtain ⟨hB, hBz⟩ := hI.z
  obtain ⟨fs8, hM8⟩ := hI.c
  obtain ⟨an, hC⟩ := ok_use (κ := κ) (as := [.int (xs (i + 1)), .int (xs (i + 2)), .int (xs (i + 3))]) k_link hI
  refine lz_aloadn (pc := 1202) 1 (hz_dec kL13 46 rfl) rfl ?_
  refine lz_sk (pc := 1203) (i := i + 1) 0 (hz_dec kL13 47 rfl) (hz_dec kL13 48 rfl) (hz_dec kL13 49 rfl) (kv := nI 1) (by decide) (hz_dec kL13 50 rfl) (hz_dec kL13 51 rfl) rfl (nI_add i 1) (by omega) (by omega) ?_
  refine lz_sk (pc := 1208) (i := i + 2) 0 (hz_dec kL13 52 rfl) (hz_dec kL13 53 rfl) (hz_dec kL13 54 rfl) (kv := nI 2) (by decide) (hz_dec kL13 55 rfl) (hz_dec kL13 56 rfl) rfl (nI_add i 2) (by omega) (by omega) ?_
  refine lz_sk (pc := 1213) (i := i + 3) 0 (hz_dec kL13 57 rfl) (hz_dec kL13 58 rfl) (hz_dec kL13 59 rfl) (kv := nI 3) (by decide) (hz_dec kL14 0 rfl) (hz_dec kL14 1 rfl) rfl (nI_add i 3) (by omega) (by omega) ?_
  refine lz_callV (pc := 1218) (a := 8) (As := [.int (xs (i + 1)), .int (xs (i + 2)), .int (xs (i + 3))]) (st := []) (hz_dec kL14 2 rfl) co_L_112 im_X11_link se_X11_link rfl hM8 (by decide) (by omega) hC rfl (by decide) ⟨hcn, hsn⟩ (Nat.le_of_ble_eq_true rfl) rfl (fun r9 z9 M2 hp9 => ?_)
  obtain ⟨rfl, rfl, ⟨fs2, hO2⟩, hD⟩ := hp9
  refine lz_aloadn (pc := 1221) 2 (hz_dec kL14 3 rfl) rfl ?_
  refine lz_sk (pc := 1222) (i := i + 1) 0 (hz_dec kL14 4 rfl) (hz_dec kL14 5 rfl) (hz_dec kL14 6 rfl) (kv := nI 1) (by decide) (hz_dec kL14 7 rfl) (hz_dec kL14 8 rfl) rfl (nI_add i 1) (by omega) (by omega) ?_
  refine lz_sk (pc := 1227) (i := i + 2) 0 (hz_dec kL14 9 rfl) (hz_dec kL14 10 rfl) (hz_dec kL14 11 rfl) (kv := nI 2) (by decide) (hz_dec kL14 12 rfl) (hz_dec kL14 13 rfl) rfl (nI_add i 2) (by omega) (by omega) ?_
  refine lz_sk (pc := 1232) (i := i + 3) 0 (hz_dec kL14 14 rfl) (hz_dec kL14 15 rfl) (hz_dec kL14 16 rfl) (kv := nI 3) (by decide) (hz_dec kL14 17 rfl) (hz_dec kL14 18 rfl) rfl (nI_add i 3) (by omega) (by omega) ?_
  refine lz_callV (pc := 1237) (a := B) (As := [.int (xs (i + 1)), .int (xs (i + 2)), .int (xs (i + 3))]) (st := [.int an]) (hz_dec kL14 19 rfl) co_L_115 im_X12_link se_X12_link rfl hO2 (by omega) (by omega) hD rfl (by decide) ⟨hcn, hsn⟩ (Nat.le_of_ble_eq_true rfl) rfl (fun r9 z9 M3 hp9 => ?_)
  obtain ⟨rfl, rfl, H2, hI2⟩ := hp9
  exact lz_icmp_eq (pc := 1240) (tgt := 1989) (hz_dec kL14 20 rfl) (by decide) (fun _ => K M3 H2 hI2) (fun q => absurd rfl q)
