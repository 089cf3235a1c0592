set_option maxHeartbeats 4000000 in
set_option maxRecDepth 100000 in
theorem lw_c20 {κ : hz_C} {bb_ L : Nat} {xs : Nat → Int32} {cn sn : Nat} (hcn : cn ≤ 600000) (hsn : sn ≤ 7302250) (hLs : L < 2 ^ 30) {i : Nat} (hi : i + 5 < L) {F : by_L} {z B : Nat} {M : hz_M} {H : ho_H} (hI : lawI F z B M H) (K : ∀ M2 H2, lawI F z B M2 H2 → lz_W κ bb_ L xs cn sn 1989 [(3, .int (nI i)), (1, .ref 8), (2, .ref B)] [] z M2) : lz_W κ bb_ L xs cn sn 1245 [(3, .int (nI i)), (1, .ref 8), (2, .ref B)] [] z M := by
  obtain ⟨hB, hBz⟩ := hI.z
  obtain ⟨fs8, hM8⟩ := hI.c
  obtain ⟨an, hC⟩ := ok_use (κ := κ) (as := [.int (xs (i + 1))]) k_tick hI
  refine lz_aloadn (pc := 1245) 1 (hz_dec kL14 23 rfl) rfl ?_
  refine lz_sk (pc := 1246) (i := i + 1) 0 (hz_dec kL14 24 rfl) (hz_dec kL14 25 rfl) (hz_dec kL14 26 rfl) (kv := nI 1) (by decide) (hz_dec kL14 27 rfl) (hz_dec kL14 28 rfl) rfl (nI_add i 1) (by omega) (by omega) ?_
  refine lz_callV (pc := 1251) (a := 8) (As := [.int (xs (i + 1))]) (st := []) (hz_dec kL14 29 rfl) co_L_116 im_X11_tick se_X11_tick rfl hM8 (by decide) (by omega) hC rfl (by decide) ⟨hcn, hsn⟩ (Nat.le_of_ble_eq_true rfl) rfl (fun r9 z9 M2 hp9 => ?_)
  obtain ⟨rfl, rfl, ⟨fs2, hO2⟩, hD⟩ := hp9
  refine lz_aloadn (pc := 1254) 2 (hz_dec kL14 30 rfl) rfl ?_
  refine lz_sk (pc := 1255) (i := i + 1) 0 (hz_dec kL14 31 rfl) (hz_dec kL14 32 rfl) (hz_dec kL14 33 rfl) (kv := nI 1) (by decide) (hz_dec kL14 34 rfl) (hz_dec kL14 35 rfl) rfl (nI_add i 1) (by omega) (by omega) ?_
  refine lz_callV (pc := 1260) (a := B) (As := [.int (xs (i + 1))]) (st := [.int an]) (hz_dec kL14 36 rfl) co_L_119 im_X12_tick se_X12_tick rfl hO2 (by omega) (by omega) hD rfl (by decide) ⟨hcn, hsn⟩ (Nat.le_of_ble_eq_true rfl) rfl (fun r9 z9 M3 hp9 => ?_)
  obtain ⟨rfl, rfl, H2, hI2⟩ := hp9
  exact lz_icmp_eq (pc := 1263) (tgt := 1989) (hz_dec kL14 37 rfl) (by decide) (fun _ => K M3 H2 hI2) (fun q => absurd rfl q)
set_option maxHeartbeats 4000000 in
set_option maxRecDepth 100000 in
theorem lw_c21 {κ : hz_C} {bb_ L : Nat} {xs : Nat → Int32} {cn sn : Nat} (hcn : cn ≤ 600000) (hsn : sn ≤ 7302250) (hLs : L < 2 ^ 30) {i : Nat} (hi : i + 5 < L) {F : by_L} {z B : Nat} {M : hz_M} {H : ho_H} (hI : lawI F z B M H) (K : ∀ M2 H2, lawI F z B M2 H2 → lz_W κ bb_ L xs cn sn 1989 [(3, .int (nI i)), (1, .ref 8), (2, .ref B)] [] z M2) : lz_W κ bb_ L xs cn sn 1268 [(3, .int (nI i)), (1, .ref 8), (2, .ref B)] [] z M := by
  obtain ⟨hB, hBz⟩ := hI.z
  obtain ⟨fs8, hM8⟩ := hI.c
  obtain ⟨an, hC⟩ := ok_use (κ := κ) (as := [.int (xs (i + 1)), .int (xs (i + 2))]) k_message hI
  refine lz_aloadn (pc := 1268) 1 (hz_dec kL14 40 rfl) rfl ?_
  refine lz_sk (pc := 1269) (i := i + 1) 0 (hz_dec kL14 41 rfl) (hz_dec kL14 42 rfl) (hz_dec kL14 43 rfl) (kv := nI 1) (by decide) (hz_dec kL14 44 rfl) (hz_dec kL14 45 rfl) rfl (nI_add i 1) (by omega) (by omega) ?_
  refine lz_sk (pc := 1274) (i := i + 2) 0 (hz_dec kL14 46 rfl) (hz_dec kL14 47 rfl) (hz_dec kL14 48 rfl) (kv := nI 2) (by decide) (hz_dec kL14 49 rfl) (hz_dec kL14 50 rfl) rfl (nI_add i 2) (by omega) (by omega) ?_
  refine lz_callV (pc := 1279) (a := 8) (As := [.int (xs (i + 1)), .int (xs (i + 2))]) (st := []) (hz_dec kL14 51 rfl) co_L_120 im_X11_message se_X11_message rfl hM8 (by decide) (by omega) hC rfl (by decide) ⟨hcn, hsn⟩ (Nat.le_of_ble_eq_true rfl) rfl (fun r9 z9 M2 hp9 => ?_)
  obtain ⟨rfl, rfl, ⟨fs2, hO2⟩, hD⟩ := hp9
  refine lz_aloadn (pc := 1282) 2 (hz_dec kL14 52 rfl) rfl ?_
  refine lz_sk (pc := 1283) (i := i + 1) 0 (hz_dec kL14 53 rfl) (hz_dec kL14 54 rfl) (hz_dec kL14 55 rfl) (kv := nI 1) (by decide) (hz_dec kL14 56 rfl) (hz_dec kL14 57 rfl) rfl (nI_add i 1) (by omega) (by omega) ?_
  refine lz_sk (pc := 1288) (i := i + 2) 0 (hz_dec kL14 58 rfl) (hz_dec kL14 59 rfl) (hz_dec kL15 0 rfl) (kv := nI 2) (by decide) (hz_dec kL15 1 rfl) (hz_dec kL15 2 rfl) rfl (nI_add i 2) (by omega) (by omega) ?_
  refine lz_callV (pc := 1293) (a := B) (As := [.int (xs (i + 1)), .int (xs (i + 2))]) (st := [.int an]) (hz_dec kL15 3 rfl) co_L_123 im_X12_message se_X12_message rfl hO2 (by omega) (by omega) hD rfl (by decide) ⟨hcn, hsn⟩ (Nat.le_of_ble_eq_true rfl) rfl (fun r9 z9 M3 hp9 => ?_)
  obtain ⟨rfl, rfl, H2, hI2⟩ := hp9
  exact lz_icmp_eq (pc := 1296) (tgt := 1989) (hz_dec kL15 4 rfl) (by decide) (fun _ => K M3 H2 hI2) (fun q => absurd rfl q)
set_option maxHeartbeats 4000000 in
set_option maxRecDepth 100000 in
theorem lw_c22 {κ : hz_C} {bb_ L : Nat} {xs : Nat → Int32} {cn sn : Nat} (hcn : cn ≤ 600000) (hsn : sn ≤ 7302250) (hLs : L < 2 ^ 30) {i : Nat} (hi : i + 5 < L) {F : by_L} {z B : Nat} {M : hz_M} {H : ho_H} (hI : lawI F z B M H) (K : ∀ M2 H2, lawI F z B M2 H2 → lz_W κ bb_ L xs cn sn 1989 [(3, .int (nI i)), (1, .ref 8), (2, .ref B)] [] z M2) : lz_W κ bb_ L xs cn sn 1301 [(3, .int (nI i)), (1, .ref 8), (2, .ref B)] [] z M := by
  obtain ⟨hB, hBz⟩ := hI.z
  obtain ⟨fs8, hM8⟩ := hI.c
  obtain ⟨an, hC⟩ := ok_use (κ := κ) (as := [.int (xs (i + 1)), .int (xs (i + 2))]) k_messageByte hI
  refine lz_aloadn (pc := 1301) 1 (hz_dec kL15 7 rfl) rfl ?_
  refine lz_sk (pc := 1302) (i := i + 1) 0 (hz_dec kL15 8 rfl) (hz_dec kL15 9 rfl) (hz_dec kL15 10 rfl) (kv := nI 1) (by decide) (hz_dec kL15 11 rfl) (hz_dec kL15 12 rfl) rfl (nI_add i 1) (by omega) (by omega) ?_
  refine lz_sk (pc := 1307) (i := i + 2) 0 (hz_dec kL15 13 rfl) (hz_dec kL15 14 rfl) (hz_dec kL15 15 rfl) (kv := nI 2) (by decide) (hz_dec kL15 16 rfl) (hz_dec kL15 17 rfl) rfl (nI_add i 2) (by omega) (by omega) ?_
  refine lz_callV (pc := 1312) (a := 8) (As := [.int (xs (i + 1)), .int (xs (i + 2))]) (st := []) (hz_dec kL15 18 rfl) co_L_124 im_X11_messageByte se_X11_messageByte rfl hM8 (by decide) (by omega) hC rfl (by decide) ⟨hcn, hsn⟩ (Nat.le_of_ble_eq_true rfl) rfl (fun r9 z9 M2 hp9 => ?_)
  obtain ⟨rfl, rfl, ⟨fs2, hO2⟩, hD⟩ := hp9
  refine lz_aloadn (pc := 1315) 2 (hz_dec kL15 19 rfl) rfl ?_
  refine lz_sk (pc := 1316) (i := i + 1) 0 (hz_dec kL15 20 rfl) (hz_dec kL15 21 rfl) (hz_dec kL15 22 rfl) (kv := nI 1) (by decide) (hz_dec kL15 23 rfl) (hz_dec kL15 24 rfl) rfl (nI_add i 1) (by omega) (by omega) ?_
  refine lz_sk (pc := 1321) (i := i + 2) 0 (hz_dec kL15 25 rfl) (hz_dec kL15 26 rfl) (hz_dec kL15 27 rfl) (kv := nI 2) (by decide) (hz_dec kL15 28 rfl) (hz_dec kL15 29 rfl) rfl (nI_add i 2) (by omega) (by omega) ?_
  refine lz_callV (pc := 1326) (a := B) (As := [.int (xs (i + 1)), .int (xs (i + 2))]) (st := [.int an]) (hz_dec kL15 30 rfl) co_L_127 im_X12_messageByte se_X12_messageByte rfl hO2 (by omega) (by omega) hD rfl (by decide) ⟨hcn, hsn⟩ (Nat.le_of_ble_eq_true rfl) rfl (fun r9 z9 M3 hp9 => ?_)
  obtain ⟨rfl, rfl, H2, hI2⟩ := hp9
  exact lz_icmp_eq (pc := 1329) (tgt := 1989) (hz_dec kL15 31 rfl) (by decide) (fun _ => K M3 H2 hI2) (fun q => absurd rfl q)
set_option maxHeartbeats 4000000 in
set_option maxRecDepth 100000 in
theorem lw_c23 {κ : hz_C} {bb_ L : Nat} {xs : Nat → Int32} {cn sn : Nat} (hcn : cn ≤ 600000) (hsn : sn ≤ 7302250) (hLs : L < 2 ^ 30) {i : Nat} (hi : i + 5 < L) {F : by_L} {z B : Nat} {M : hz_M} {H : ho_H} (hI : lawI F z B M H) (K : ∀ M2 H2, lawI F z B M2 H2 → lz_W κ bb_ L xs cn sn 1989 [(3, .int (nI i)), (1, .ref 8), (2, .ref B)] [] z M2) : lz_W κ bb_ L xs cn sn 1334 [(3, .int (nI i)), (1, .ref 8), (2, .ref B)] [] z M := by
  obtain ⟨hB, hBz⟩ := hI.z
  obtain ⟨fs8, hM8⟩ := hI.c
  obtain ⟨an, hC⟩ := ok_use (κ := κ) (as := [.int (xs (i + 1)), .int (xs (i + 2)), .int (xs (i + 3))]) k_alter hI
  refine lz_aloadn (pc := 1334) 1 (hz_dec kL15 34 rfl) rfl ?_
  refine lz_sk (pc := 1335) (i := i + 1) 0 (hz_dec kL15 35 rfl) (hz_dec kL15 36 rfl) (hz_dec kL15 37 rfl) (kv := nI 1) (by decide) (hz_dec kL15 38 rfl) (hz_dec kL15 39 rfl) rfl (nI_add i 1) (by omega) (by omega) ?_
  refine lz_sk (pc := 1340) (i := i + 2) 0 (hz_dec kL15 40 rfl) (hz_dec kL15 41 rfl) (hz_dec kL15 42 rfl) (kv := nI 2) (by decide) (hz_dec kL15 43 rfl) (hz_dec kL15 44 rfl) rfl (nI_add i 2) (by omega) (by omega) ?_
  refine lz_sk (pc := 1345) (i := i + 3) 0 (hz_dec kL15 45 rfl) (hz_dec kL15 46 rfl) (hz_dec kL15 47 rfl) (kv := nI 3) (by decide) (hz_dec kL15 48 rfl) (hz_dec kL15 49 rfl) rfl (nI_add i 3) (by omega) (by omega) ?_
  refine lz_callV (pc := 1350) (a := 8) (As := [.int (xs (i + 1)), .int (xs (i + 2)), .int (xs (i + 3))]) (st := []) (hz_dec kL15 50 rfl) co_L_128 im_X11_alter se_X11_alter rfl hM8 (by decide) (by omega) hC rfl (by decide) ⟨hcn, hsn⟩ (Nat.le_of_ble_eq_true rfl) rfl (fun r9 z9 M2 hp9 => ?_)
  obtain ⟨rfl, rfl, ⟨fs2, hO2⟩, hD⟩ := hp9
  refine lz_aloadn (pc := 1353) 2 (hz_dec kL15 51 rfl) rfl ?_
  refine lz_sk (pc := 1354) (i := i + 1) 0 (hz_dec kL15 52 rfl) (hz_dec kL15 53 rfl) (hz_dec kL15 54 rfl) (kv := nI 1) (by decide) (hz_dec kL15 55 rfl) (hz_dec kL15 56 rfl) rfl (nI_add i 1) (by omega) (by omega) ?_
  refine lz_sk (pc := 1359) (i := i + 2) 0 (hz_dec kL15 57 rfl) (hz_dec kL15 58 rfl) (hz_dec kL15 59 rfl) (kv := nI 2) (by decide) (hz_dec kL16 0 rfl) (hz_dec kL16 1 rfl) rfl (nI_add i 2) (by omega) (by omega) ?_
  refine lz_sk (pc := 1364) (i := i + 3) 0 (hz_dec kL16 2 rfl) (hz_dec kL16 3 rfl) (hz_dec kL16 4 rfl) (kv := nI 3) (by decide) (hz_dec kL16 5 rfl) (hz_dec kL16 6 rfl) rfl (nI_add i 3) (by omega) (by omega) ?_
  refine lz_callV (pc := 1369) (a := B) (As := [.int (xs (i + 1)), .int (xs (i + 2)), .int (xs (i + 3))]) (st := [.int an]) (hz_dec kL16 7 rfl) co_L_131 im_X12_alter se_X12_alter rfl hO2 (by omega) (by omega) hD rfl (by decide) ⟨hcn, hsn⟩ (Nat.le_of_ble_eq_true rfl) rfl (fun r9 z9 M3 hp9 => ?_)
  obtain ⟨rfl, rfl, H2, hI2⟩ := hp9
  exact lz_icmp_eq (pc := 1372) (tgt := 1989) (hz_dec kL16 8 rfl) (by decide) (fun _ => K M3 H2 hI2) (fun q => absurd rfl q)
set_option maxHeartbeats 4000000 in
set_option maxRecDepth 100000 in
theorem lw_c24 {κ : hz_C} {bb_ L : Nat} {xs : Nat → Int32} {cn sn : Nat} (hcn : cn ≤ 600000) (hsn : sn ≤ 7302250) (hLs : L < 2 ^ 30) {i : Nat} (hi : i + 5 < L) {F : by_L} {z B : Nat} {M : hz_M} {H : ho_H} (hI : lawI F z B M H) (K : ∀ M2 H2, lawI F z B M2 H2 → lz_W κ bb_ L xs cn sn 1989 [(3, .int (nI i)), (1, .ref 8), (2, .ref B)] [] z M2) : lz_W κ bb_ L xs cn sn 1377 [(3, .int (nI i)), (1, .ref 8), (2, .ref B)] [] z M := by
  obtain ⟨hB, hBz⟩ := hI.z
  obtain ⟨fs8, hM8⟩ := hI.c
  obtain ⟨an, hC⟩ := ok_use (κ := κ) (as := [.int (xs (i + 1))]) k_lose hI
  refine lz_aloadn (pc := 1377) 1 (hz_dec kL16 11 rfl) rfl ?_
  refine lz_sk (pc := 1378) (i := i + 1) 0 (hz_dec kL16 12 rfl) (hz_dec kL16 13 rfl) (hz_dec kL16 14 rfl) (kv := nI 1) (by decide) (hz_dec kL16 15 rfl) (hz_dec kL16 16 rfl) rfl (nI_add i 1) (by omega) (by omega) ?_
  refine lz_callV (pc := 1383) (a := 8) (As := [.int (xs (i + 1))]) (st := []) (hz_dec kL16 17 rfl) co_L_132 im_X11_lose se_X11_lose rfl hM8 (by decide) (by omega) hC rfl (by decide) ⟨hcn, hsn⟩ (Nat.le_of_ble_eq_true rfl) rfl (fun r9 z9 M2 hp9 => ?_)
  obtain ⟨rfl, rfl, ⟨fs2, hO2⟩, hD⟩ := hp9
  refine lz_aloadn (pc := 1386) 2 (hz_dec kL16 18 rfl) rfl ?_
  refine lz_sk (pc := 1387) (i := i + 1) 0 (hz_dec kL16 19 rfl) (hz_dec kL16 20 rfl) (hz_dec kL16 21 rfl) (kv := nI 1) (by decide) (hz_dec kL16 22 rfl) (hz_dec kL16 23 rfl) rfl (nI_add i 1) (by omega) (by omega) ?_
  refine lz_callV (pc := 1392) (a := B) (As := [.int (xs (i + 1))]) (st := [.int an]) (hz_dec kL16 24 rfl) co_L_135 im_X12_lose se_X12_lose rfl hO2 (by omega) (by omega) hD rfl (by decide) ⟨hcn, hsn⟩ (Nat.le_of_ble_eq_true rfl) rfl (fun r9 z9 M3 hp9 => ?_)
  obtain ⟨rfl, rfl, H2, hI2⟩ := hp9
  exact lz_icmp_eq (pc := 1395) (tgt := 1989) (hz_dec kL16 25 rfl) (by decide) (fun _ => K M3 H2 hI2) (fun q => absurd rfl q)
set_option maxHeartbeats 4000000 in
set_option maxRecDepth 100000 in
theorem lw_c25 {κ : hz_C} {bb_ L : Nat} {xs : Nat → Int32} {cn sn : Nat} (hcn : cn ≤ 600000) (hsn : sn ≤ 7302250) (hLs : L < 2 ^ 30) {i : Nat} (hi : i + 5 < L) {F : by_L} {z B : Nat} {M : hz_M} {H : ho_H} (hI : lawI F z B M H) (K : ∀ M2 H2, lawI F z B M2 H2 → lz_W κ bb_ L xs cn sn 1989 [(3, .int (nI i)), (1, .ref 8), (2, .ref B)] [] z M2) : lz_W κ bb_ L xs cn sn 1400 [(3, .int (nI i)), (1, .ref 8), (2, .ref B)] [] z M := by
  obtain ⟨hB, hBz⟩ := hI.z
  obtain ⟨fs8, hM8⟩ := hI.c
  obtain ⟨an, hC⟩ := ok_use (κ := κ) (as := [.int (xs (i + 1))]) k_down hI
  refine lz_aloadn (pc := 1400) 1 (hz_dec kL16 28 rfl) rfl ?_
  refine lz_sk (pc := 1401) (i := i + 1) 0 (hz_dec kL16 29 rfl) (hz_dec kL16 30 rfl) (hz_dec kL16 31 rfl) (kv := nI 1) (by decide) (hz_dec kL16 32 rfl) (hz_dec kL16 33 rfl) rfl (nI_add i 1) (by omega) (by omega) ?_
  refine lz_callV (pc := 1406) (a := 8) (As := [.int (xs (i + 1))]) (st := []) (hz_dec kL16 34 rfl) co_L_136 im_X11_down se_X11_down rfl hM8 (by decide) (by omega) hC rfl (by decide) ⟨hcn, hsn⟩ (Nat.le_of_ble_eq_true rfl) rfl (fun r9 z9 M2 hp9 => ?_)
  obtain ⟨rfl, rfl, ⟨fs2, hO2⟩, hD⟩ := hp9
  refine lz_aloadn (pc := 1409) 2 (hz_dec kL16 35 rfl) rfl ?_
  refine lz_sk (pc := 1410) (i := i + 1) 0 (hz_dec kL16 36 rfl) (hz_dec kL16 37 rfl) (hz_dec kL16 38 rfl) (kv := nI 1) (by decide) (hz_dec kL16 39 rfl) (hz_dec kL16 40 rfl) rfl (nI_add i 1) (by omega) (by omega) ?_
  refine lz_callV (pc := 1415) (a := B) (As := [.int (xs (i + 1))]) (st := [.int an]) (hz_dec kL16 41 rfl) co_L_139 im_X12_down se_X12_down rfl hO2 (by omega) (by omega) hD rfl (by decide) ⟨hcn, hsn⟩ (Nat.le_of_ble_eq_true rfl) rfl (fun r9 z9 M3 hp9 => ?_)
  obtain ⟨rfl, rfl, H2, hI2⟩ := hp9
  exact lz_icmp_eq (pc := 1418) (tgt := 1989) (hz_dec kL16 42 rfl) (by decide) (fun _ => K M3 H2 hI2) (fun q => absurd rfl q)
set_option maxHeartbeats 4000000 in
set_option maxRecDepth 100000 in
theorem lw_c26 {κ : hz_C} {bb_ L : Nat} {xs : Nat → Int32} {cn sn : Nat} (hcn : cn ≤ 600000) (hsn : sn ≤ 7302250) (hLs : L < 2 ^ 30) {i : Nat} (hi : i + 5 < L) {F : by_L} {z B : Nat} {M : hz_M} {H : ho_H} (hI : lawI F z B M H) (K : ∀ M2 H2, lawI F z B M2 H2 → lz_W κ bb_ L xs cn sn 1989 [(3, .int (nI i)), (1, .ref 8), (2, .ref B)] [] z M2) : lz_W κ bb_ L xs cn sn 1423 [(3, .int (nI i)), (1, .ref 8), (2, .ref B)] [] z M := by
  obtain ⟨hB, hBz⟩ := hI.z
  obtain ⟨fs8, hM8⟩ := hI.c
  obtain ⟨an, hC⟩ := ok_use (κ := κ) (as := [.int (xs (i + 1))]) k_up hI
  refine lz_aloadn (pc := 1423) 1 (hz_dec kL16 45 rfl) rfl ?_
  refine lz_sk (pc := 1424) (i := i + 1) 0 (hz_dec kL16 46 rfl) (hz_dec kL16 47 rfl) (hz_dec kL16 48 rfl) (kv := nI 1) (by decide) (hz_dec kL16 49 rfl) (hz_dec kL16 50 rfl) rfl (nI_add i 1) (by omega) (by omega) ?_
  refine lz_callV (pc := 1429) (a := 8) (As := [.int (xs (i + 1))]) (st := []) (hz_dec kL16 51 rfl) co_L_140 im_X11_up se_X11_up rfl hM8 (by decide) (by omega) hC rfl (by decide) ⟨hcn, hsn⟩ (Nat.le_of_ble_eq_true rfl) rfl (fun r9 z9 M2 hp9 => ?_)
  obtain ⟨rfl, rfl, ⟨fs2, hO2⟩, hD⟩ := hp9
  refine lz_aloadn (pc := 1432) 2 (hz_dec kL16 52 rfl) rfl ?_
  refine lz_sk (pc := 1433) (i := i + 1) 0 (hz_dec kL16 53 rfl) (hz_dec kL16 54 rfl) (hz_dec kL16 55 rfl) (kv := nI 1) (by decide) (hz_dec kL16 56 rfl) (hz_dec kL16 57 rfl) rfl (nI_add i 1) (by omega) (by omega) ?_
  refine lz_callV (pc := 1438) (a := B) (As := [.int (xs (i + 1))]) (st := [.int an]) (hz_dec kL16 58 rfl) co_L_143 im_X12_up se_X12_up rfl hO2 (by omega) (by omega) hD rfl (by decide) ⟨hcn, hsn⟩ (Nat.le_of_ble_eq_true rfl) rfl (fun r9 z9 M3 hp9 => ?_)
  obtain ⟨rfl, rfl, H2, hI2⟩ := hp9
  exact lz_icmp_eq (pc := 1441) (tgt := 1989) (hz_dec kL16 59 rfl) (by decide) (fun _ => K M3 H2 hI2) (fun q => absurd rfl q)
set_option maxHeartbeats 4000000 in
set_option maxRecDepth 100000 in
theorem lw_c27 {κ : hz_C} {bb_ L : Nat} {xs : Nat → Int32} {cn sn : Nat} (hcn : cn ≤ 600000) (hsn : sn ≤ 7302250) (hLs : L < 2 ^ 30) {i : Nat} (hi : i + 5 < L) {F : by_L} {z B : Nat} {M : hz_M} {H : ho_H} (hI : lawI F z B M H) (K : ∀ M2 H2, lawI F z B M2 H2 → lz_W κ bb_ L xs cn sn 1989 [(3, .int (nI i)), (1, .ref 8), (2, .ref B)] [] z M2) : lz_W κ bb_ L xs cn sn 1446 [(3, .int (nI i)), (1, .ref 8), (2, .ref B)] [] z M := by
  obtain ⟨hB, hBz⟩ := hI.z
  obtain ⟨fs8, hM8⟩ := hI.c
  obtain ⟨an, hC⟩ := ok_use (κ := κ) (as := [.int (xs (i + 1)), .int (xs (i + 2))]) k_fuse hI
  refine lz_aloadn (pc := 1446) 1 (hz_dec kL17 2 rfl) rfl ?_
  refine lz_sk (pc := 1447) (i := i + 1) 0 (hz_dec kL17 3 rfl) (hz_dec kL17 4 rfl) (hz_dec kL17 5 rfl) (kv := nI 1) (by decide) (hz_dec kL17 6 rfl) (hz_dec kL17 7 rfl) rfl (nI_add i 1) (by omega) (by omega) ?_
  refine lz_sk (pc := 1452) (i := i + 2) 0 (hz_dec kL17 8 rfl) (hz_dec kL17 9 rfl) (hz_dec kL17 10 rfl) (kv := nI 2) (by decide) (hz_dec kL17 11 rfl) (hz_dec kL17 12 rfl) rfl (nI_add i 2) (by omega) (by omega) ?_
  refine lz_callV (pc := 1457) (a := 8) (As := [.int (xs (i + 1)), .int (xs (i + 2))]) (st := []) (hz_dec kL17 13 rfl) co_L_144 im_X11_fuse se_X11_fuse rfl hM8 (by decide) (by omega) hC rfl (by decide) ⟨hcn, hsn⟩ (Nat.le_of_ble_eq_true rfl) rfl (fun r9 z9 M2 hp9 => ?_)
  obtain ⟨rfl, rfl, ⟨fs2, hO2⟩, hD⟩ := hp9
  refine lz_aloadn (pc := 1460) 2 (hz_dec kL17 14 rfl) rfl ?_
  refine lz_sk (pc := 1461) (i := i + 1) 0 (hz_dec kL17 15 rfl) (hz_dec kL17 16 rfl) (hz_dec kL17 17 rfl) (kv := nI 1) (by decide) (hz_dec kL17 18 rfl) (hz_dec kL17 19 rfl) rfl (nI_add i 1) (by omega) (by omega) ?_
  refine lz_sk (pc := 1466) (i := i + 2) 0 (hz_dec kL17 20 rfl) (hz_dec kL17 21 rfl) (hz_dec kL17 22 rfl) (kv := nI 2) (by decide) (hz_dec kL17 23 rfl) (hz_dec kL17 24 rfl) rfl (nI_add i 2) (by omega) (by omega) ?_
  refine lz_callV (pc := 1471) (a := B) (As := [.int (xs (i + 1)), .int (xs (i + 2))]) (st := [.int an]) (hz_dec kL17 25 rfl) co_L_147 im_X12_fuse se_X12_fuse rfl hO2 (by omega) (by omega) hD rfl (by decide) ⟨hcn, hsn⟩ (Nat.le_of_ble_eq_true rfl) rfl (fun r9 z9 M3 hp9 => ?_)
  obtain ⟨rfl, rfl, H2, hI2⟩ := hp9
  exact lz_icmp_eq (pc := 1474) (tgt := 1989) (hz_dec kL17 26 rfl) (by decide) (fun _ => K M3 H2 hI2) (fun q => absurd rfl q)
set_option maxHeartbeats 4000000 in
set_option maxRecDepth 100000 in
theorem lw_c28 {κ : hz_C} {bb_ L : Nat} {xs : Nat → Int32} {cn sn : Nat} (hcn : cn ≤ 600000) (hsn : sn ≤ 7302250) (hLs : L < 2 ^ 30) {i : Nat} (hi : i + 5 < L) {F : by_L} {z B : Nat} {M : hz_M} {H : ho_H} (hI : lawI F z B M H) (K : ∀ M2 H2, lawI F z B M2 H2 → lz_W κ bb_ L xs cn sn 1989 [(3, .int (nI i)), (1, .ref 8), (2, .ref B)] [] z M2) : lz_W κ bb_ L xs cn sn 1479 [(3, .int (nI i)), (1, .ref 8), (2, .ref B)] [] z M := by
  obtain ⟨hB, hBz⟩ := hI.z
  obtain ⟨fs8, hM8⟩ := hI.c
  obtain ⟨an, hC⟩ := ok_use (κ := κ) (as := [.int (xs (i + 1)), .int (xs (i + 2))]) k_peek hI
  refine lz_aloadn (pc := 1479) 1 (hz_dec kL17 29 rfl) rfl ?_
  refine lz_sk (pc := 1480) (i := i + 1) 0 (hz_dec kL17 30 rfl) (hz_dec kL17 31 rfl) (hz_dec kL17 32 rfl) (kv := nI 1) (by decide) (hz_dec kL17 33 rfl) (hz_dec kL17 34 rfl) rfl (nI_add i 1) (by omega) (by omega) ?_
  refine lz_sk (pc := 1485) (i := i + 2) 0 (hz_dec kL17 35 rfl) (hz_dec kL17 36 rfl) (hz_dec kL17 37 rfl) (kv := nI 2) (by decide) (hz_dec kL17 38 rfl) (hz_dec kL17 39 rfl) rfl (nI_add i 2) (by omega) (by omega) ?_
  refine lz_callV (pc := 1490) (a := 8) (As := [.int (xs (i + 1)), .int (xs (i + 2))]) (st := []) (hz_dec kL17 40 rfl) co_L_148 im_X11_peek se_X11_peek rfl hM8 (by decide) (by omega) hC rfl (by decide) ⟨hcn, hsn⟩ (Nat.le_of_ble_eq_true rfl) rfl (fun r9 z9 M2 hp9 => ?_)
  obtain ⟨rfl, rfl, ⟨fs2, hO2⟩, hD⟩ := hp9
  refine lz_aloadn (pc := 1493) 2 (hz_dec kL17 41 rfl) rfl ?_
  refine lz_sk (pc := 1494) (i := i + 1) 0 (hz_dec kL17 42 rfl) (hz_dec kL17 43 rfl) (hz_dec kL17 44 rfl) (kv := nI 1) (by decide) (hz_dec kL17 45 rfl) (hz_dec kL17 46 rfl) rfl (nI_add i 1) (by omega) (by omega) ?_
  refine lz_sk (pc := 1499) (i := i + 2) 0 (hz_dec kL17 47 rfl) (hz_dec kL17 48 rfl) (hz_dec kL17 49 rfl) (kv := nI 2) (by decide) (hz_dec kL17 50 rfl) (hz_dec kL17 51 rfl) rfl (nI_add i 2) (by omega) (by omega) ?_
  refine lz_callV (pc := 1504) (a := B) (As := [.int (xs (i + 1)), .int (xs (i + 2))]) (st := [.int an]) (hz_dec kL17 52 rfl) co_L_151 im_X12_peek se_X12_peek rfl hO2 (by omega) (by omega) hD rfl (by decide) ⟨hcn, hsn⟩ (Nat.le_of_ble_eq_true rfl) rfl (fun r9 z9 M3 hp9 => ?_)
  obtain ⟨rfl, rfl, H2, hI2⟩ := hp9
  exact lz_icmp_eq (pc := 1507) (tgt := 1989) (hz_dec kL17 53 rfl) (by decide) (fun _ => K M3 H2 hI2) (fun q => absurd rfl q)
set_option maxHeartbeats 4000000 in
set_option maxRecDepth 100000 in
theorem lw_c29 {κ : hz_C} {bb_ L : Nat} {xs : Nat → Int32} {cn sn : Nat} (hcn : cn ≤ 600000) (hsn : sn ≤ 7302250) (hLs : L < 2 ^ 30) {i : Nat} (hi : i + 5 < L) {F : by_L} {z B : Nat} {M : hz_M} {H : ho_H} (hI : lawI F z B M H) (K : ∀ M2 H2, lawI F z B M2 H2 → lz_W κ bb_ L xs cn sn 1989 [(3, .int (nI i)), (1, .ref 8), (2, .ref B)] [] z M2) : lz_W κ bb_ L xs cn sn 1512 [(3, .int (nI i)), (1, .ref 8), (2, .ref B)] [] z M := by
  obtain ⟨hB, hBz⟩ := hI.z
  obtain ⟨fs8, hM8⟩ := hI.c
  obtain ⟨an, hC⟩ := ok_use (κ := κ) (as := [.int (xs (i + 1)), .int (xs (i + 2)), .int (xs (i + 3))]) k_poke hI
  refine lz_aloadn (pc := 1512) 1 (hz_dec kL17 56 rfl) rfl ?_
  refine lz_sk (pc := 1513) (i := i + 1) 0 (hz_dec kL17 57 rfl) (hz_dec kL17 58 rfl) (hz_dec kL17 59 rfl) (kv := nI 1) (by decide) (hz_dec kL18 0 rfl) (hz_dec kL18 1 rfl) rfl (nI_add i 1) (by omega) (by omega) ?_
  refine lz_sk (pc := 1518) (i := i + 2) 0 (hz_dec kL18 2 rfl) (hz_dec kL18 3 rfl) (hz_dec kL18 4 rfl) (kv := nI 2) (by decide) (hz_dec kL18 5 rfl) (hz_dec kL18 6 rfl) rfl (nI_add i 2) (by omega) (by omega) ?_
  refine lz_sk (pc := 1523) (i := i + 3) 0 (hz_dec kL18 7 rfl) (hz_dec kL18 8 rfl) (hz_dec kL18 9 rfl) (kv := nI 3) (by decide) (hz_dec kL18 10 rfl) (hz_dec kL18 11 rfl) rfl (nI_add i 3) (by omega) (by omega) ?_
  refine lz_callV (pc := 1528) (a := 8) (As := [.int (xs (i + 1)), .int (xs (i + 2)), .int (xs (i + 3))]) (st := []) (hz_dec kL18 12 rfl) co_L_152 im_X11_poke se_X11_poke rfl hM8 (by decide) (by omega) hC rfl (by decide) ⟨hcn, hsn⟩ (Nat.le_of_ble_eq_true rfl) rfl (fun r9 z9 M2 hp9 => ?_)
  obtain ⟨rfl, rfl, ⟨fs2, hO2⟩, hD⟩ := hp9
  refine lz_aloadn (pc := 1531) 2 (hz_dec kL18 13 rfl) rfl ?_
  refine lz_sk (pc := 1532) (i := i + 1) 0 (hz_dec kL18 14 rfl) (hz_dec kL18 15 rfl) (hz_dec kL18 16 rfl) (kv := nI 1) (by decide) (hz_dec kL18 17 rfl) (hz_dec kL18 18 rfl) rfl (nI_add i 1) (by omega) (by omega) ?_
  refine lz_sk (pc := 1537) (i := i + 2) 0 (hz_dec kL18 19 rfl) (hz_dec kL18 20 rfl) (hz_dec kL18 21 rfl) (kv := nI 2) (by decide) (hz_dec kL18 22 rfl) (hz_dec kL18 23 rfl) rfl (nI_add i 2) (by omega) (by omega) ?_
  refine lz_sk (pc := 1542) (i := i + 3) 0 (hz_dec kL18 24 rfl) (hz_dec kL18 25 rfl) (hz_dec kL18 26 rfl) (kv := nI 3) (by decide) (hz_dec kL18 27 rfl) (hz_dec kL18 28 rfl) rfl (nI_add i 3) (by omega) (by omega) ?_
  refine lz_callV (pc := 1547) (a := B) (As := [.int (xs (i + 1)), .int (xs (i + 2)), .int (xs (i + 3))]) (st := [.int an]) (hz_dec kL18 29 rfl) co_L_155 im_X12_poke se_X12_poke rfl hO2 (by omega) (by omega) hD rfl (by decide) ⟨hcn, hsn⟩ (Nat.le_of_ble_eq_true rfl) rfl (fun r9 z9 M3 hp9 => ?_)
  obtain ⟨rfl, rfl, H2, hI2⟩ := hp9
  exact lz_icmp_eq (pc := 1550) (tgt := 1989) (hz_dec kL18 30 rfl) (by decide) (fun _ => K M3 H2 hI2) (fun q => absurd rfl q)
set_option maxHeartbeats 4000000 in
set_option maxRecDepth 100000 in
theorem lw_c30 {κ : hz_C} {bb_ L : Nat} {xs : Nat → Int32} {cn sn : Nat} (hcn : cn ≤ 600000) (hsn : sn ≤ 7302250) (hLs : L < 2 ^ 30) {i : Nat} (hi : i + 5 < L) {F : by_L} {z B : Nat} {M : hz_M} {H : ho_H} (hI : lawI F z B M H) (K : ∀ M2 H2, lawI F z B M2 H2 → lz_W κ bb_ L xs cn sn 1989 [(3, .int (nI i)), (1, .ref 8), (2, .ref B)] [] z M2) : lz_W κ bb_ L xs cn sn 1555 [(3, .int (nI i)), (1, .ref 8), (2, .ref B)] [] z M := by
  obtain ⟨hB, hBz⟩ := hI.z
  obtain ⟨fs8, hM8⟩ := hI.c
  obtain ⟨an, hC⟩ := ok_use (κ := κ) (as := [.int (xs (i + 1)), .int (xs (i + 2))]) k_told hI
  refine lz_aloadn (pc := 1555) 1 (hz_dec kL18 33 rfl) rfl ?_
  refine lz_sk (pc := 1556) (i := i + 1) 0 (hz_dec kL18 34 rfl) (hz_dec kL18 35 rfl) (hz_dec kL18 36 rfl) (kv := nI 1) (by decide) (hz_dec kL18 37 rfl) (hz_dec kL18 38 rfl) rfl (nI_add i 1) (by omega) (by omega) ?_
  refine lz_sk (pc := 1561) (i := i + 2) 0 (hz_dec kL18 39 rfl) (hz_dec kL18 40 rfl) (hz_dec kL18 41 rfl) (kv := nI 2) (by decide) (hz_dec kL18 42 rfl) (hz_dec kL18 43 rfl) rfl (nI_add i 2) (by omega) (by omega) ?_
  refine lz_callV (pc := 1566) (a := 8) (As := [.int (xs (i + 1)), .int (xs (i + 2))]) (st := []) (hz_dec kL18 44 rfl) co_L_156 im_X11_told se_X11_told rfl hM8 (by decide) (by omega) hC rfl (by decide) ⟨hcn, hsn⟩ (Nat.le_of_ble_eq_true rfl) rfl (fun r9 z9 M2 hp9 => ?_)
  obtain ⟨rfl, rfl, ⟨fs2, hO2⟩, hD⟩ := hp9
  refine lz_aloadn (pc := 1569) 2 (hz_dec kL18 45 rfl) rfl ?_
  refine lz_sk (pc := 1570) (i := i + 1) 0 (hz_dec kL18 46 rfl) (hz_dec kL18 47 rfl) (hz_dec kL18 48 rfl) (kv := nI 1) (by decide) (hz_dec kL18 49 rfl) (hz_dec kL18 50 rfl) rfl (nI_add i 1) (by omega) (by omega) ?_
  refine lz_sk (pc := 1575) (i := i + 2) 0 (hz_dec kL18 51 rfl) (hz_dec kL18 52 rfl) (hz_dec kL18 53 rfl) (kv := nI 2) (by decide) (hz_dec kL18 54 rfl) (hz_dec kL18 55 rfl) rfl (nI_add i 2) (by omega) (by omega) ?_
  refine lz_callV (pc := 1580) (a := B) (As := [.int (xs (i + 1)), .int (xs (i + 2))]) (st := [.int an]) (hz_dec kL18 56 rfl) co_L_159 im_X12_told se_X12_told rfl hO2 (by omega) (by omega) hD rfl (by decide) ⟨hcn, hsn⟩ (Nat.le_of_ble_eq_true rfl) rfl (fun r9 z9 M3 hp9 => ?_)
  obtain ⟨rfl, rfl, H2, hI2⟩ := hp9
  exact lz_icmp_eq (pc := 1583) (tgt := 1989) (hz_dec kL18 57 rfl) (by decide) (fun _ => K M3 H2 hI2) (fun q => absurd rfl q)
set_option maxHeartbeats 4000000 in
set_option maxRecDepth 100000 in
theorem lw_c31 {κ : hz_C} {bb_ L : Nat} {xs : Nat → Int32} {cn sn : Nat} (hcn : cn ≤ 600000) (hsn : sn ≤ 7302250) (hLs : L < 2 ^ 30) {i : Nat} (hi : i + 5 < L) {F : by_L} {z B : Nat} {M : hz_M} {H : ho_H} (hI : lawI F z B M H) (K : ∀ M2 H2, lawI F z B M2 H2 → lz_W κ bb_ L xs cn sn 1989 [(3, .int (nI i)), (1, .ref 8), (2, .ref B)] [] z M2) : lz_W κ bb_ L xs cn sn 1588 [(3, .int (nI i)), (1, .ref 8), (2, .ref B)] [] z M := by
  obtain ⟨hB, hBz⟩ := hI.z
  obtain ⟨fs8, hM8⟩ := hI.c
  obtain ⟨an, hC⟩ := ok_use (κ := κ) (as := [.int (xs (i + 1))]) k_house hI
  refine lz_aloadn (pc := 1588) 1 (hz_dec kL19 0 rfl) rfl ?_
  refine lz_sk (pc := 1589) (i := i + 1) 0 (hz_dec kL19 1 rfl) (hz_dec kL19 2 rfl) (hz_dec kL19 3 rfl) (kv := nI 1) (by decide) (hz_dec kL19 4 rfl) (hz_dec kL19 5 rfl) rfl (nI_add i 1) (by omega) (by omega) ?_
  refine lz_callV (pc := 1594) (a := 8) (As := [.int (xs (i + 1))]) (st := []) (hz_dec kL19 6 rfl) co_L_160 im_X11_house se_X11_house rfl hM8 (by decide) (by omega) hC rfl (by decide) ⟨hcn, hsn⟩ (Nat.le_of_ble_eq_true rfl) rfl (fun r9 z9 M2 hp9 => ?_)
  obtain ⟨rfl, rfl, ⟨fs2, hO2⟩, hD⟩ := hp9
  refine lz_aloadn (pc := 1597) 2 (hz_dec kL19 7 rfl) rfl ?_
  refine lz_sk (pc := 1598) (i := i + 1) 0 (hz_dec kL19 8 rfl) (hz_dec kL19 9 rfl) (hz_dec kL19 10 rfl) (kv := nI 1) (by decide) (hz_dec kL19 11 rfl) (hz_dec kL19 12 rfl) rfl (nI_add i 1) (by omega) (by omega) ?_
  refine lz_callV (pc := 1603) (a := B) (As := [.int (xs (i + 1))]) (st := [.int an]) (hz_dec kL19 13 rfl) co_L_163 im_X12_house se_X12_house rfl hO2 (by omega) (by omega) hD rfl (by decide) ⟨hcn, hsn⟩ (Nat.le_of_ble_eq_true rfl) rfl (fun r9 z9 M3 hp9 => ?_)
  obtain ⟨rfl, rfl, H2, hI2⟩ := hp9
  exact lz_icmp_eq (pc := 1606) (tgt := 1989) (hz_dec kL19 14 rfl) (by decide) (fun _ => K M3 H2 hI2) (fun q => absurd rfl q)
set_option maxHeartbeats 4000000 in
set_option maxRecDepth 100000 in
theorem lw_c32 {κ : hz_C} {bb_ L : Nat} {xs : Nat → Int32} {cn sn : Nat} (hcn : cn ≤ 600000) (hsn : sn ≤ 7302250) (hLs : L < 2 ^ 30) {i : Nat} (hi : i + 5 < L) {F : by_L} {z B : Nat} {M : hz_M} {H : ho_H} (hI : lawI F z B M H) (K : ∀ M2 H2, lawI F z B M2 H2 → lz_W κ bb_ L xs cn sn 1989 [(3, .int (nI i)), (1, .ref 8), (2, .ref B)] [] z M2) : lz_W κ bb_ L xs cn sn 1611 [(3, .int (nI i)), (1, .ref 8), (2, .ref B)] [] z M := by
  obtain ⟨hB, hBz⟩ := hI.z
  obtain ⟨fs8, hM8⟩ := hI.c
  obtain ⟨an, hC⟩ := ok_use (κ := κ) (as := [.int (xs (i + 1)), .int (xs (i + 2)), .int (xs (i + 3))]) k_block hI
  refine lz_aloadn (pc := 1611) 1 (hz_dec kL19 17 rfl) rfl ?_
  refine lz_sk (pc := 1612) (i := i + 1) 0 (hz_dec kL19 18 rfl) (hz_dec kL19 19 rfl) (hz_dec kL19 20 rfl) (kv := nI 1) (by decide) (hz_dec kL19 21 rfl) (hz_dec kL19 22 rfl) rfl (nI_add i 1) (by omega) (by omega) ?_
  refine lz_sk (pc := 1617) (i := i + 2) 0 (hz_dec kL19 23 rfl) (hz_dec kL19 24 rfl) (hz_dec kL19 25 rfl) (kv := nI 2) (by decide) (hz_dec kL19 26 rfl) (hz_dec kL19 27 rfl) rfl (nI_add i 2) (by omega) (by omega) ?_
  refine lz_sk (pc := 1622) (i := i + 3) 0 (hz_dec kL19 28 rfl) (hz_dec kL19 29 rfl) (hz_dec kL19 30 rfl) (kv := nI 3) (by decide) (hz_dec kL19 31 rfl) (hz_dec kL19 32 rfl) rfl (nI_add i 3) (by omega) (by omega) ?_
  refine lz_callV (pc := 1627) (a := 8) (As := [.int (xs (i + 1)), .int (xs (i + 2)), .int (xs (i + 3))]) (st := []) (hz_dec kL19 33 rfl) co_L_164 im_X11_block se_X11_block rfl hM8 (by decide) (by omega) hC rfl (by decide) ⟨hcn, hsn⟩ (Nat.le_of_ble_eq_true rfl) rfl (fun r9 z9 M2 hp9 => ?_)
  obtain ⟨rfl, rfl, ⟨fs2, hO2⟩, hD⟩ := hp9
  refine lz_aloadn (pc := 1630) 2 (hz_dec kL19 34 rfl) rfl ?_
  refine lz_sk (pc := 1631) (i := i + 1) 0 (hz_dec kL19 35 rfl) (hz_dec kL19 36 rfl) (hz_dec kL19 37 rfl) (kv := nI 1) (by decide) (hz_dec kL19 38 rfl) (hz_dec kL19 39 rfl) rfl (nI_add i 1) (by omega) (by omega) ?_
  refine lz_sk (pc := 1636) (i := i + 2) 0 (hz_dec kL19 40 rfl) (hz_dec kL19 41 rfl) (hz_dec kL19 42 rfl) (kv := nI 2) (by decide) (hz_dec kL19 43 rfl) (hz_dec kL19 44 rfl) rfl (nI_add i 2) (by omega) (by omega) ?_
  refine lz_sk (pc := 1641) (i := i + 3) 0 (hz_dec kL19 45 rfl) (hz_dec kL19 46 rfl) (hz_dec kL19 47 rfl) (kv := nI 3) (by decide) (hz_dec kL19 48 rfl) (hz_dec kL19 49 rfl) rfl (nI_add i 3) (by omega) (by omega) ?_
  refine lz_callV (pc := 1646) (a := B) (As := [.int (xs (i + 1)), .int (xs (i + 2)), .int (xs (i + 3))]) (st := [.int an]) (hz_dec kL19 50 rfl) co_L_167 im_X12_block se_X12_block rfl hO2 (by omega) (by omega) hD rfl (by decide) ⟨hcn, hsn⟩ (Nat.le_of_ble_eq_true rfl) rfl (fun r9 z9 M3 hp9 => ?_)
  obtain ⟨rfl, rfl, H2, hI2⟩ := hp9
  exact lz_icmp_eq (pc := 1649) (tgt := 1989) (hz_dec kL19 51 rfl) (by decide) (fun _ => K M3 H2 hI2) (fun q => absurd rfl q)
set_option maxHeartbeats 4000000 in
set_option maxRecDepth 100000 in
theorem lw_c33 {κ : hz_C} {bb_ L : Nat} {xs : Nat → Int32} {cn sn : Nat} (hcn : cn ≤ 600000) (hsn : sn ≤ 7302250) (hLs : L < 2 ^ 30) {i : Nat} (hi : i + 5 < L) {F : by_L} {z B : Nat} {M : hz_M} {H : ho_H} (hI : lawI F z B M H) (K : ∀ M2 H2, lawI F z B M2 H2 → lz_W κ bb_ L xs cn sn 1989 [(3, .int (nI i)), (1, .ref 8), (2, .ref B)] [] z M2) : lz_W κ bb_ L xs cn sn 1654 [(3, .int (nI i)), (1, .ref 8), (2, .ref B)] [] z M := by
  obtain ⟨hB, hBz⟩ := hI.z
  obtain ⟨fs8, hM8⟩ := hI.c
  obtain ⟨an, hC⟩ := ok_use (κ := κ) (as := [.int (xs (i + 1)), .int (xs (i + 2)), .int (xs (i + 3))]) k_limb hI
  refine lz_aloadn (pc := 1654) 1 (hz_dec kL19 54 rfl) rfl ?_
  refine lz_sk (pc := 1655) (i := i + 1) 0 (hz_dec kL19 55 rfl) (hz_dec kL19 56 rfl) (hz_dec kL19 57 rfl) (kv := nI 1) (by decide) (hz_dec kL19 58 rfl) (hz_dec kL19 59 rfl) rfl (nI_add i 1) (by omega) (by omega) ?_
  refine lz_sk (pc := 1660) (i := i + 2) 0 (hz_dec kL20 0 rfl) (hz_dec kL20 1 rfl) (hz_dec kL20 2 rfl) (kv := nI 2) (by decide) (hz_dec kL20 3 rfl) (hz_dec kL20 4 rfl) rfl (nI_add i 2) (by omega) (by omega) ?_
  refine lz_sk (pc := 1665) (i := i + 3) 0 (hz_dec kL20 5 rfl) (hz_dec kL20 6 rfl) (hz_dec kL20 7 rfl) (kv := nI 3) (by decide) (hz_dec kL20 8 rfl) (hz_dec kL20 9 rfl) rfl (nI_add i 3) (by omega) (by omega) ?_
  refine lz_callV (pc := 1670) (a := 8) (As := [.int (xs (i + 1)), .int (xs (i + 2)), .int (xs (i + 3))]) (st := []) (hz_dec kL20 10 rfl) co_L_168 im_X11_limb se_X11_limb rfl hM8 (by decide) (by omega) hC rfl (by decide) ⟨hcn, hsn⟩ (Nat.le_of_ble_eq_true rfl) rfl (fun r9 z9 M2 hp9 => ?_)
  obtain ⟨rfl, rfl, ⟨fs2, hO2⟩, hD⟩ := hp9
  refine lz_aloadn (pc := 1673) 2 (hz_dec kL20 11 rfl) rfl ?_
  refine lz_sk (pc := 1674) (i := i + 1) 0 (hz_dec kL20 12 rfl) (hz_dec kL20 13 rfl) (hz_dec kL20 14 rfl) (kv := nI 1) (by decide) (hz_dec kL20 15 rfl) (hz_dec kL20 16 rfl) rfl (nI_add i 1) (by omega) (by omega) ?_
  refine lz_sk (pc := 1679) (i := i + 2) 0 (hz_dec kL20 17 rfl) (hz_dec kL20 18 rfl) (hz_dec kL20 19 rfl) (kv := nI 2) (by decide) (hz_dec kL20 20 rfl) (hz_dec kL20 21 rfl) rfl (nI_add i 2) (by omega) (by omega) ?_
  refine lz_sk (pc := 1684) (i := i + 3) 0 (hz_dec kL20 22 rfl) (hz_dec kL20 23 rfl) (hz_dec kL20 24 rfl) (kv := nI 3) (by decide) (hz_dec kL20 25 rfl) (hz_dec kL20 26 rfl) rfl (nI_add i 3) (by omega) (by omega) ?_
  refine lz_callV (pc := 1689) (a := B) (As := [.int (xs (i + 1)), .int (xs (i + 2)), .int (xs (i + 3))]) (st := [.long an]) (hz_dec kL20 27 rfl) co_L_172 im_X12_limb se_X12_limb rfl hO2 (by omega) (by omega) hD rfl (by decide) ⟨hcn, hsn⟩ (Nat.le_of_ble_eq_true rfl) rfl (fun r9 z9 M3 hp9 => ?_)
  obtain ⟨rfl, rfl, H2, hI2⟩ := hp9
  refine lz_lcmp (pc := 1692) (hz_dec kL20 28 rfl) ?_
  exact lz_if_eq (pc := 1693) (tgt := 1989) (hz_dec kL20 29 rfl) (by decide) (fun _ => K M3 H2 hI2) (fun q => absurd (lg_cmp_self an) q)
set_option maxHeartbeats 4000000 in
set_option maxRecDepth 100000 in
theorem lw_c34 {κ : hz_C} {bb_ L : Nat} {xs : Nat → Int32} {cn sn : Nat} (hcn : cn ≤ 600000) (hsn : sn ≤ 7302250) (hLs : L < 2 ^ 30) {i : Nat} (hi : i + 5 < L) {F : by_L} {z B : Nat} {M : hz_M} {H : ho_H} (hI : lawI F z B M H) (K : ∀ M2 H2, lawI F z B M2 H2 → lz_W κ bb_ L xs cn sn 1989 [(3, .int (nI i)), (1, .ref 8), (2, .ref B)] [] z M2) : lz_W κ bb_ L xs cn sn 1698 [(3, .int (nI i)), (1, .ref 8), (2, .ref B)] [] z M := by
  obtain ⟨hB, hBz⟩ := hI.z
  obtain ⟨fs8, hM8⟩ := hI.c
  obtain ⟨an, hC⟩ := ok_use (κ := κ) (as := [.int (xs (i + 1)), .int (xs (i + 2))]) k_at hI
  refine lz_aloadn (pc := 1698) 1 (hz_dec kL20 32 rfl) rfl ?_
  refine lz_sk (pc := 1699) (i := i + 1) 0 (hz_dec kL20 33 rfl) (hz_dec kL20 34 rfl) (hz_dec kL20 35 rfl) (kv := nI 1) (by decide) (hz_dec kL20 36 rfl) (hz_dec kL20 37 rfl) rfl (nI_add i 1) (by omega) (by omega) ?_
  refine lz_sk (pc := 1704) (i := i + 2) 0 (hz_dec kL20 38 rfl) (hz_dec kL20 39 rfl) (hz_dec kL20 40 rfl) (kv := nI 2) (by decide) (hz_dec kL20 41 rfl) (hz_dec kL20 42 rfl) rfl (nI_add i 2) (by omega) (by omega) ?_
  refine lz_callV (pc := 1709) (a := 8) (As := [.int (xs (i + 1)), .int (xs (i + 2))]) (st := []) (hz_dec kL20 43 rfl) co_L_173 im_X11_at se_X11_at rfl hM8 (by decide) (by omega) hC rfl (by decide) ⟨hcn, hsn⟩ (Nat.le_of_ble_eq_true rfl) rfl (fun r9 z9 M2 hp9 => ?_)
  obtain ⟨rfl, rfl, ⟨fs2, hO2⟩, hD⟩ := hp9
  refine lz_aloadn (pc := 1712) 2 (hz_dec kL20 44 rfl) rfl ?_
  refine lz_sk (pc := 1713) (i := i + 1) 0 (hz_dec kL20 45 rfl) (hz_dec kL20 46 rfl) (hz_dec kL20 47 rfl) (kv := nI 1) (by decide) (hz_dec kL20 48 rfl) (hz_dec kL20 49 rfl) rfl (nI_add i 1) (by omega) (by omega) ?_
  refine lz_sk (pc := 1718) (i := i + 2) 0 (hz_dec kL20 50 rfl) (hz_dec kL20 51 rfl) (hz_dec kL20 52 rfl) (kv := nI 2) (by decide) (hz_dec kL20 53 rfl) (hz_dec kL20 54 rfl) rfl (nI_add i 2) (by omega) (by omega) ?_
  refine lz_callV (pc := 1723) (a := B) (As := [.int (xs (i + 1)), .int (xs (i + 2))]) (st := [.int an]) (hz_dec kL20 55 rfl) co_L_176 im_X12_at se_X12_at rfl hO2 (by omega) (by omega) hD rfl (by decide) ⟨hcn, hsn⟩ (Nat.le_of_ble_eq_true rfl) rfl (fun r9 z9 M3 hp9 => ?_)
  obtain ⟨rfl, rfl, H2, hI2⟩ := hp9
  exact lz_icmp_eq (pc := 1726) (tgt := 1989) (hz_dec kL20 56 rfl) (by decide) (fun _ => K M3 H2 hI2) (fun q => absurd rfl q)
set_option maxHeartbeats 4000000 in
set_option maxRecDepth 100000 in
theorem lw_c35 {κ : hz_C} {bb_ L : Nat} {xs : Nat → Int32} {cn sn : Nat} (hcn : cn ≤ 600000) (hsn : sn ≤ 7302250) (hLs : L < 2 ^ 30) {i : Nat} (hi : i + 5 < L) {F : by_L} {z B : Nat} {M : hz_M} {H : ho_H} (hI : lawI F z B M H) (K : ∀ M2 H2, lawI F z B M2 H2 → lz_W κ bb_ L xs cn sn 1989 [(3, .int (nI i)), (1, .ref 8), (2, .ref B)] [] z M2) : lz_W κ bb_ L xs cn sn 1731 [(3, .int (nI i)), (1, .ref 8), (2, .ref B)] [] z M := by
  obtain ⟨hB, hBz⟩ := hI.z
  obtain ⟨fs8, hM8⟩ := hI.c
  obtain ⟨an, hC⟩ := ok_use (κ := κ) (as := [.int (xs (i + 1)), .int (xs (i + 2)), .int (xs (i + 3))]) k_unspent hI
  refine lz_aloadn (pc := 1731) 1 (hz_dec kL20 59 rfl) rfl ?_
  refine lz_sk (pc := 1732) (i := i + 1) 0 (hz_dec kL21 0 rfl) (hz_dec kL21 1 rfl) (hz_dec kL21 2 rfl) (kv := nI 1) (by decide) (hz_dec kL21 3 rfl) (hz_dec kL21 4 rfl) rfl (nI_add i 1) (by omega) (by omega) ?_
  refine lz_sk (pc := 1737) (i := i + 2) 0 (hz_dec kL21 5 rfl) (hz_dec kL21 6 rfl) (hz_dec kL21 7 rfl) (kv := nI 2) (by decide) (hz_dec kL21 8 rfl) (hz_dec kL21 9 rfl) rfl (nI_add i 2) (by omega) (by omega) ?_
  refine lz_sk (pc := 1742) (i := i + 3) 0 (hz_dec kL21 10 rfl) (hz_dec kL21 11 rfl) (hz_dec kL21 12 rfl) (kv := nI 3) (by decide) (hz_dec kL21 13 rfl) (hz_dec kL21 14 rfl) rfl (nI_add i 3) (by omega) (by omega) ?_
  refine lz_callV (pc := 1747) (a := 8) (As := [.int (xs (i + 1)), .int (xs (i + 2)), .int (xs (i + 3))]) (st := []) (hz_dec kL21 15 rfl) co_L_177 im_X11_unspent se_X11_unspent rfl hM8 (by decide) (by omega) hC rfl (by decide) ⟨hcn, hsn⟩ (Nat.le_of_ble_eq_true rfl) rfl (fun r9 z9 M2 hp9 => ?_)
  obtain ⟨rfl, rfl, ⟨fs2, hO2⟩, hD⟩ := hp9
  refine lz_aloadn (pc := 1750) 2 (hz_dec kL21 16 rfl) rfl ?_
  refine lz_sk (pc := 1751) (i := i + 1) 0 (hz_dec kL21 17 rfl) (hz_dec kL21 18 rfl) (hz_dec kL21 19 rfl) (kv := nI 1) (by decide) (hz_dec kL21 20 rfl) (hz_dec kL21 21 rfl) rfl (nI_add i 1) (by omega) (by omega) ?_
  refine lz_sk (pc := 1756) (i := i + 2) 0 (hz_dec kL21 22 rfl) (hz_dec kL21 23 rfl) (hz_dec kL21 24 rfl) (kv := nI 2) (by decide) (hz_dec kL21 25 rfl) (hz_dec kL21 26 rfl) rfl (nI_add i 2) (by omega) (by omega) ?_
  refine lz_sk (pc := 1761) (i := i + 3) 0 (hz_dec kL21 27 rfl) (hz_dec kL21 28 rfl) (hz_dec kL21 29 rfl) (kv := nI 3) (by decide) (hz_dec kL21 30 rfl) (hz_dec kL21 31 rfl) rfl (nI_add i 3) (by omega) (by omega) ?_
  refine lz_callV (pc := 1766) (a := B) (As := [.int (xs (i + 1)), .int (xs (i + 2)), .int (xs (i + 3))]) (st := [.long an]) (hz_dec kL21 32 rfl) co_L_180 im_X12_unspent se_X12_unspent rfl hO2 (by omega) (by omega) hD rfl (by decide) ⟨hcn, hsn⟩ (Nat.le_of_ble_eq_true rfl) rfl (fun r9 z9 M3 hp9 => ?_)
  obtain ⟨rfl, rfl, H2, hI2⟩ := hp9
  refine lz_lcmp (pc := 1769) (hz_dec kL21 33 rfl) ?_
  exact lz_if_eq (pc := 1770) (tgt := 1989) (hz_dec kL21 34 rfl) (by decide) (fun _ => K M3 H2 hI2) (fun q => absurd (lg_cmp_self an) q)
set_option maxHeartbeats 4000000 in
set_option maxRecDepth 100000 in
theorem lw_c36 {κ : hz_C} {bb_ L : Nat} {xs : Nat → Int32} {cn sn : Nat} (hcn : cn ≤ 600000) (hsn : sn ≤ 7302250) (hLs : L < 2 ^ 30) {i : Nat} (hi : i + 5 < L) {F : by_L} {z B : Nat} {M : hz_M} {H : ho_H} (hI : lawI F z B M H) (K : ∀ M2 H2, lawI F z B M2 H2 → lz_W κ bb_ L xs cn sn 1989 [(3, .int (nI i)), (1, .ref 8), (2, .ref B)] [] z M2) : lz_W κ bb_ L xs cn sn 1775 [(3, .int (nI i)), (1, .ref 8), (2, .ref B)] [] z M := by
  obtain ⟨hB, hBz⟩ := hI.z
  obtain ⟨fs8, hM8⟩ := hI.c
  obtain ⟨an, hC⟩ := ok_use (κ := κ) (as := [.int (xs (i + 1)), .long ((((Int32.toInt64 (xs (i + 2))) <<< (Int32.toInt64 (nI 32) &&& 63)) ||| ((Int32.toInt64 (xs (i + 3))) &&& 4294967295))), .int (xs (i + 4))]) k_find hI
  refine lz_aloadn (pc := 1775) 1 (hz_dec kL21 37 rfl) rfl ?_
  refine lz_sk (pc := 1776) (i := i + 1) 0 (hz_dec kL21 38 rfl) (hz_dec kL21 39 rfl) (hz_dec kL21 40 rfl) (kv := nI 1) (by decide) (hz_dec kL21 41 rfl) (hz_dec kL21 42 rfl) rfl (nI_add i 1) (by omega) (by omega) ?_
  refine lz_sk (pc := 1781) (i := i + 2) 0 (hz_dec kL21 43 rfl) (hz_dec kL21 44 rfl) (hz_dec kL21 45 rfl) (kv := nI 2) (by decide) (hz_dec kL21 46 rfl) (hz_dec kL21 47 rfl) rfl (nI_add i 2) (by omega) (by omega) ?_
  refine lz_i2l (pc := 1786) (hz_dec kL21 48 rfl) ?_
  refine lz_bipush (pc := 1787) (v := nI 32) (hz_dec kL21 49 rfl) (by decide) ?_
  refine lz_lshl (pc := 1789) (hz_dec kL21 50 rfl) ?_
  refine lz_sk (pc := 1790) (i := i + 3) 0 (hz_dec kL21 51 rfl) (hz_dec kL21 52 rfl) (hz_dec kL21 53 rfl) (kv := nI 3) (by decide) (hz_dec kL21 54 rfl) (hz_dec kL21 55 rfl) rfl (nI_add i 3) (by omega) (by omega) ?_
  refine lz_i2l (pc := 1795) (hz_dec kL21 56 rfl) ?_
  refine lz_ldc2 (pc := 1796) (hz_dec kL21 57 rfl) ks_L_41 ?_
  refine lz_land (pc := 1799) (hz_dec kL21 58 rfl) ?_
  refine lz_lor (pc := 1800) (hz_dec kL21 59 rfl) ?_
  refine lz_sk (pc := 1801) (i := i + 4) 0 (hz_dec kL22 0 rfl) (hz_dec kL22 1 rfl) (hz_dec kL22 2 rfl) (kv := nI 4) (by decide) (hz_dec kL22 3 rfl) (hz_dec kL22 4 rfl) rfl (nI_add i 4) (by omega) (by omega) ?_
  refine lz_callV (pc := 1806) (a := 8) (As := [.int (xs (i + 1)), .long ((((Int32.toInt64 (xs (i + 2))) <<< (Int32.toInt64 (nI 32) &&& 63)) ||| ((Int32.toInt64 (xs (i + 3))) &&& 4294967295))), .int (xs (i + 4))]) (st := []) (hz_dec kL22 5 rfl) co_L_181 im_X11_find se_X11_find rfl hM8 (by decide) (by omega) hC rfl (by decide) ⟨hcn, hsn⟩ (Nat.le_of_ble_eq_true rfl) rfl (fun r9 z9 M2 hp9 => ?_)
  obtain ⟨rfl, rfl, ⟨fs2, hO2⟩, hD⟩ := hp9
  refine lz_aloadn (pc := 1809) 2 (hz_dec kL22 6 rfl) rfl ?_
  refine lz_sk (pc := 1810) (i := i + 1) 0 (hz_dec kL22 7 rfl) (hz_dec kL22 8 rfl) (hz_dec kL22 9 rfl) (kv := nI 1) (by decide) (hz_dec kL22 10 rfl) (hz_dec kL22 11 rfl) rfl (nI_add i 1) (by omega) (by omega) ?_
  refine lz_sk (pc := 1815) (i := i + 2) 0 (hz_dec kL22 12 rfl) (hz_dec kL22 13 rfl) (hz_dec kL22 14 rfl) (kv := nI 2) (by decide) (hz_dec kL22 15 rfl) (hz_dec kL22 16 rfl) rfl (nI_add i 2) (by omega) (by omega) ?_
  refine lz_i2l (pc := 1820) (hz_dec kL22 17 rfl) ?_
  refine lz_bipush (pc := 1821) (v := nI 32) (hz_dec kL22 18 rfl) (by decide) ?_
  refine lz_lshl (pc := 1823) (hz_dec kL22 19 rfl) ?_
  refine lz_sk (pc := 1824) (i := i + 3) 0 (hz_dec kL22 20 rfl) (hz_dec kL22 21 rfl) (hz_dec kL22 22 rfl) (kv := nI 3) (by decide) (hz_dec kL22 23 rfl) (hz_dec kL22 24 rfl) rfl (nI_add i 3) (by omega) (by omega) ?_
  refine lz_i2l (pc := 1829) (hz_dec kL22 25 rfl) ?_
  refine lz_ldc2 (pc := 1830) (hz_dec kL22 26 rfl) ks_L_41 ?_
  refine lz_land (pc := 1833) (hz_dec kL22 27 rfl) ?_
  refine lz_lor (pc := 1834) (hz_dec kL22 28 rfl) ?_
  refine lz_sk (pc := 1835) (i := i + 4) 0 (hz_dec kL22 29 rfl) (hz_dec kL22 30 rfl) (hz_dec kL22 31 rfl) (kv := nI 4) (by decide) (hz_dec kL22 32 rfl) (hz_dec kL22 33 rfl) rfl (nI_add i 4) (by omega) (by omega) ?_
  refine lz_callV (pc := 1840) (a := B) (As := [.int (xs (i + 1)), .long ((((Int32.toInt64 (xs (i + 2))) <<< (Int32.toInt64 (nI 32) &&& 63)) ||| ((Int32.toInt64 (xs (i + 3))) &&& 4294967295))), .int (xs (i + 4))]) (st := [.int an]) (hz_dec kL22 34 rfl) co_L_184 im_X12_find se_X12_find rfl hO2 (by omega) (by omega) hD rfl (by decide) ⟨hcn, hsn⟩ (Nat.le_of_ble_eq_true rfl) rfl (fun r9 z9 M3 hp9 => ?_)
  obtain ⟨rfl, rfl, H2, hI2⟩ := hp9
  exact lz_icmp_eq (pc := 1843) (tgt := 1989) (hz_dec kL22 35 rfl) (by decide) (fun _ => K M3 H2 hI2) (fun q => absurd rfl q)
set_option maxHeartbeats 4000000 in
set_option maxRecDepth 100000 in
theorem lw_c37 {κ : hz_C} {bb_ L : Nat} {xs : Nat → Int32} {cn sn : Nat} (hcn : cn ≤ 600000) (hsn : sn ≤ 7302250) (hLs : L < 2 ^ 30) {i : Nat} (hi : i + 5 < L) {F : by_L} {z B : Nat} {M : hz_M} {H : ho_H} (hI : lawI F z B M H) (K : ∀ M2 H2, lawI F z B M2 H2 → lz_W κ bb_ L xs cn sn 1989 [(3, .int (nI i)), (1, .ref 8), (2, .ref B)] [] z M2) : lz_W κ bb_ L xs cn sn 1848 [(3, .int (nI i)), (1, .ref 8), (2, .ref B)] [] z M := by
  obtain ⟨hB, hBz⟩ := hI.z
  obtain ⟨fs8, hM8⟩ := hI.c
  obtain ⟨an, hC⟩ := ok_use (κ := κ) (as := [.int (xs (i + 1)), .long ((((Int32.toInt64 (xs (i + 2))) <<< (Int32.toInt64 (nI 32) &&& 63)) ||| ((Int32.toInt64 (xs (i + 3))) &&& 4294967295)))]) k_balance hI
  refine lz_aloadn (pc := 1848) 1 (hz_dec kL22 38 rfl) rfl ?_
  refine lz_sk (pc := 1849) (i := i + 1) 0 (hz_dec kL22 39 rfl) (hz_dec kL22 40 rfl) (hz_dec kL22 41 rfl) (kv := nI 1) (by decide) (hz_dec kL22 42 rfl) (hz_dec kL22 43 rfl) rfl (nI_add i 1) (by omega) (by omega) ?_
  refine lz_sk (pc := 1854) (i := i + 2) 0 (hz_dec kL22 44 rfl) (hz_dec kL22 45 rfl) (hz_dec kL22 46 rfl) (kv := nI 2) (by decide) (hz_dec kL22 47 rfl) (hz_dec kL22 48 rfl) rfl (nI_add i 2) (by omega) (by omega) ?_
  refine lz_i2l (pc := 1859) (hz_dec kL22 49 rfl) ?_
  refine lz_bipush (pc := 1860) (v := nI 32) (hz_dec kL22 50 rfl) (by decide) ?_
  refine lz_lshl (pc := 1862) (hz_dec kL22 51 rfl) ?_
  refine lz_sk (pc := 1863) (i := i + 3) 0 (hz_dec kL22 52 rfl) (hz_dec kL22 53 rfl) (hz_dec kL22 54 rfl) (kv := nI 3) (by decide) (hz_dec kL22 55 rfl) (hz_dec kL22 56 rfl) rfl (nI_add i 3) (by omega) (by omega) ?_
  refine lz_i2l (pc := 1868) (hz_dec kL22 57 rfl) ?_
  refine lz_ldc2 (pc := 1869) (hz_dec kL22 58 rfl) ks_L_41 ?_
  refine lz_land (pc := 1872) (hz_dec kL22 59 rfl) ?_
  refine lz_lor (pc := 1873) (hz_dec kL23 0 rfl) ?_
  refine lz_callV (pc := 1874) (a := 8) (As := [.int (xs (i + 1)), .long ((((Int32.toInt64 (xs (i + 2))) <<< (Int32.toInt64 (nI 32) &&& 63)) ||| ((Int32.toInt64 (xs (i + 3))) &&& 4294967295)))]) (st := []) (hz_dec kL23 1 rfl) co_L_185 im_X11_balance se_X11_balance rfl hM8 (by decide) (by omega) hC rfl (by decide) ⟨hcn, hsn⟩ (Nat.le_of_ble_eq_true rfl) rfl (fun r9 z9 M2 hp9 => ?_)
  obtain ⟨rfl, rfl, ⟨fs2, hO2⟩, hD⟩ := hp9
  refine lz_aloadn (pc := 1877) 2 (hz_dec kL23 2 rfl) rfl ?_
  refine lz_sk (pc := 1878) (i := i + 1) 0 (hz_dec kL23 3 rfl) (hz_dec kL23 4 rfl) (hz_dec kL23 5 rfl) (kv := nI 1) (by decide) (hz_dec kL23 6 rfl) (hz_dec kL23 7 rfl) rfl (nI_add i 1) (by omega) (by omega) ?_
  refine lz_sk (pc := 1883) (i := i + 2) 0 (hz_dec kL23 8 rfl) (hz_dec kL23 9 rfl) (hz_dec kL23 10 rfl) (kv := nI 2) (by decide) (hz_dec kL23 11 rfl) (hz_dec kL23 12 rfl) rfl (nI_add i 2) (by omega) (by omega) ?_
  refine lz_i2l (pc := 1888) (hz_dec kL23 13 rfl) ?_
  refine lz_bipush (pc := 1889) (v := nI 32) (hz_dec kL23 14 rfl) (by decide) ?_
  refine lz_lshl (pc := 1891) (hz_dec kL23 15 rfl) ?_
  refine lz_sk (pc := 1892) (i := i + 3) 0 (hz_dec kL23 16 rfl) (hz_dec kL23 17 rfl) (hz_dec kL23 18 rfl) (kv := nI 3) (by decide) (hz_dec kL23 19 rfl) (hz_dec kL23 20 rfl) rfl (nI_add i 3) (by omega) (by omega) ?_
  refine lz_i2l (pc := 1897) (hz_dec kL23 21 rfl) ?_
  refine lz_ldc2 (pc := 1898) (hz_dec kL23 22 rfl) ks_L_41 ?_
  refine lz_land (pc := 1901) (hz_dec kL23 23 rfl) ?_
  refine lz_lor (pc := 1902) (hz_dec kL23 24 rfl) ?_
  refine lz_callV (pc := 1903) (a := B) (As := [.int (xs (i + 1)), .long ((((Int32.toInt64 (xs (i + 2))) <<< (Int32.toInt64 (nI 32) &&& 63)) ||| ((Int32.toInt64 (xs (i + 3))) &&& 4294967295)))]) (st := [.long an]) (hz_dec kL23 25 rfl) co_L_189 im_X12_balance se_X12_balance rfl hO2 (by omega) (by omega) hD rfl (by decide) ⟨hcn, hsn⟩ (Nat.le_of_ble_eq_true rfl) rfl (fun r9 z9 M3 hp9 => ?_)
  obtain ⟨rfl, rfl, H2, hI2⟩ := hp9
  refine lz_lcmp (pc := 1906) (hz_dec kL23 26 rfl) ?_
  exact lz_if_eq (pc := 1907) (tgt := 1989) (hz_dec kL23 27 rfl) (by decide) (fun _ => K M3 H2 hI2) (fun q => absurd (lg_cmp_self an) q)
set_option maxHeartbeats 4000000 in
set_option maxRecDepth 100000 in
theorem lw_c38 {κ : hz_C} {bb_ L : Nat} {xs : Nat → Int32} {cn sn : Nat} (hcn : cn ≤ 600000) (hsn : sn ≤ 7302250) (hLs : L < 2 ^ 30) {i : Nat} (hi : i + 5 < L) {F : by_L} {z B : Nat} {M : hz_M} {H : ho_H} (hI : lawI F z B M H) (K : ∀ M2 H2, lawI F z B M2 H2 → lz_W κ bb_ L xs cn sn 1989 [(3, .int (nI i)), (1, .ref 8), (2, .ref B)] [] z M2) : lz_W κ bb_ L xs cn sn 1912 [(3, .int (nI i)), (1, .ref 8), (2, .ref B)] [] z M := by
  obtain ⟨hB, hBz⟩ := hI.z
  obtain ⟨fs8, hM8⟩ := hI.c
  obtain ⟨an, hC⟩ := ok_use (κ := κ) (as := [.int (xs (i + 1)), .int (xs (i + 2)), .int (xs (i + 3))]) k_pooled hI
  refine lz_aloadn (pc := 1912) 1 (hz_dec kL23 30 rfl) rfl ?_
  refine lz_sk (pc := 1913) (i := i + 1) 0 (hz_dec kL23 31 rfl) (hz_dec kL23 32 rfl) (hz_dec kL23 33 rfl) (kv := nI 1) (by decide) (hz_dec kL23 34 rfl) (hz_dec kL23 35 rfl) rfl (nI_add i 1) (by omega) (by omega) ?_
  refine lz_sk (pc := 1918) (i := i + 2) 0 (hz_dec kL23 36 rfl) (hz_dec kL23 37 rfl) (hz_dec kL23 38 rfl) (kv := nI 2) (by decide) (hz_dec kL23 39 rfl) (hz_dec kL23 40 rfl) rfl (nI_add i 2) (by omega) (by omega) ?_
  refine lz_sk (pc := 1923) (i := i + 3) 0 (hz_dec kL23 41 rfl) (hz_dec kL23 42 rfl) (hz_dec kL23 43 rfl) (kv := nI 3) (by decide) (hz_dec kL23 44 rfl) (hz_dec kL23 45 rfl) rfl (nI_add i 3) (by omega) (by omega) ?_
  refine lz_callV (pc := 1928) (a := 8) (As := [.int (xs (i + 1)), .int (xs (i + 2)), .int (xs (i + 3))]) (st := []) (hz_dec kL23 46 rfl) co_L_190 im_X11_pooled se_X11_pooled rfl hM8 (by decide) (by omega) hC rfl (by decide) ⟨hcn, hsn⟩ (Nat.le_of_ble_eq_true rfl) rfl (fun r9 z9 M2 hp9 => ?_)
  obtain ⟨rfl, rfl, ⟨fs2, hO2⟩, hD⟩ := hp9
  refine lz_aloadn (pc := 1931) 2 (hz_dec kL23 47 rfl) rfl ?_
  refine lz_sk (pc := 1932) (i := i + 1) 0 (hz_dec kL23 48 rfl) (hz_dec kL23 49 rfl) (hz_dec kL23 50 rfl) (kv := nI 1) (by decide) (hz_dec kL23 51 rfl) (hz_dec kL23 52 rfl) rfl (nI_add i 1) (by omega) (by omega) ?_
  refine lz_sk (pc := 1937) (i := i + 2) 0 (hz_dec kL23 53 rfl) (hz_dec kL23 54 rfl) (hz_dec kL23 55 rfl) (kv := nI 2) (by decide) (hz_dec kL23 56 rfl) (hz_dec kL23 57 rfl) rfl (nI_add i 2) (by omega) (by omega) ?_
  refine lz_sk (pc := 1942) (i := i + 3) 0 (hz_dec kL23 58 rfl) (hz_dec kL23 59 rfl) (hz_dec kL24 0 rfl) (kv := nI 3) (by decide) (hz_dec kL24 1 rfl) (hz_dec kL24 2 rfl) rfl (nI_add i 3) (by omega) (by omega) ?_
  refine lz_callV (pc := 1947) (a := B) (As := [.int (xs (i + 1)), .int (xs (i + 2)), .int (xs (i + 3))]) (st := [.long an]) (hz_dec kL24 3 rfl) co_L_193 im_X12_pooled se_X12_pooled rfl hO2 (by omega) (by omega) hD rfl (by decide) ⟨hcn, hsn⟩ (Nat.le_of_ble_eq_true rfl) rfl (fun r9 z9 M3 hp9 => ?_)
  obtain ⟨rfl, rfl, H2, hI2⟩ := hp9
  refine lz_lcmp (pc := 1950) (hz_dec kL24 4 rfl) ?_
  exact lz_if_eq (pc := 1951) (tgt := 1989) (hz_dec kL24 5 rfl) (by decide) (fun _ => K M3 H2 hI2) (fun q => absurd (lg_cmp_self an) q)
set_option maxHeartbeats 4000000 in
set_option maxRecDepth 100000 in
theorem lw_c39 {κ : hz_C} {bb_ L : Nat} {xs : Nat → Int32} {cn sn : Nat} (hcn : cn ≤ 600000) (hsn : sn ≤ 7302250) (hLs : L < 2 ^ 30) {i : Nat} (hi : i + 5 < L) {F : by_L} {z B : Nat} {M : hz_M} {H : ho_H} (hI : lawI F z B M H) (K : ∀ M2 H2, lawI F z B M2 H2 → lz_W κ bb_ L xs cn sn 1989 [(3, .int (nI i)), (1, .ref 8), (2, .ref B)] [] z M2) : lz_W κ bb_ L xs cn sn 1956 [(3, .int (nI i)), (1, .ref 8), (2, .ref B)] [] z M := by
  obtain ⟨hB, hBz⟩ := hI.z
  obtain ⟨fs8, hM8⟩ := hI.c
  obtain ⟨an, hC⟩ := ok_use (κ := κ) (as := [.int (xs (i + 1)), .int (xs (i + 2))]) k_due hI
  refine lz_aloadn (pc := 1956) 1 (hz_dec kL24 8 rfl) rfl ?_
  refine lz_sk (pc := 1957) (i := i + 1) 0 (hz_dec kL24 9 rfl) (hz_dec kL24 10 rfl) (hz_dec kL24 11 rfl) (kv := nI 1) (by decide) (hz_dec kL24 12 rfl) (hz_dec kL24 13 rfl) rfl (nI_add i 1) (by omega) (by omega) ?_
  refine lz_sk (pc := 1962) (i := i + 2) 0 (hz_dec kL24 14 rfl) (hz_dec kL24 15 rfl) (hz_dec kL24 16 rfl) (kv := nI 2) (by decide) (hz_dec kL24 17 rfl) (hz_dec kL24 18 rfl) rfl (nI_add i 2) (by omega) (by omega) ?_
  refine lz_callV (pc := 1967) (a := 8) (As := [.int (xs (i + 1)), .int (xs (i + 2))]) (st := []) (hz_dec kL24 19 rfl) co_L_194 im_X11_due se_X11_due rfl hM8 (by decide) (by omega) hC rfl (by decide) ⟨hcn, hsn⟩ (Nat.le_of_ble_eq_true rfl) rfl (fun r9 z9 M2 hp9 => ?_)
  obtain ⟨rfl, rfl, ⟨fs2, hO2⟩, hD⟩ := hp9
  refine lz_aloadn (pc := 1970) 2 (hz_dec kL24 20 rfl) rfl ?_
  refine lz_sk (pc := 1971) (i := i + 1) 0 (hz_dec kL24 21 rfl) (hz_dec kL24 22 rfl) (hz_dec kL24 23 rfl) (kv := nI 1) (by decide) (hz_dec kL24 24 rfl) (hz_dec kL24 25 rfl) rfl (nI_add i 1) (by omega) (by omega) ?_
  refine lz_sk (pc := 1976) (i := i + 2) 0 (hz_dec kL24 26 rfl) (hz_dec kL24 27 rfl) (hz_dec kL24 28 rfl) (kv := nI 2) (by decide) (hz_dec kL24 29 rfl) (hz_dec kL24 30 rfl) rfl (nI_add i 2) (by omega) (by omega) ?_
  refine lz_callV (pc := 1981) (a := B) (As := [.int (xs (i + 1)), .int (xs (i + 2))]) (st := [.int an]) (hz_dec kL24 31 rfl) co_L_197 im_X12_due se_X12_due rfl hO2 (by omega) (by omega) hD rfl (by decide) ⟨hcn, hsn⟩ (Nat.le_of_ble_eq_true rfl) rfl (fun r9 z9 M3 hp9 => ?_)
  obtain ⟨rfl, rfl, H2, hI2⟩ := hp9
  exact lz_icmp_eq (pc := 1984) (tgt := 1989) (hz_dec kL24 32 rfl) (by decide) (fun _ => K M3 H2 hI2) (fun q => absurd rfl q)
