/-! making cells: facts and rules for each kind -/
theorem ar_I : Cond.arrayClass .int ∈ lw_tbl := hz_tm1 (List.mem_of_getElem? (i := 54) rfl)
theorem ar_B : Cond.arrayClass .byte ∈ lw_tbl := hz_tm1 (List.mem_of_getElem? (i := 55) rfl)
theorem ar_J : Cond.arrayClass .long ∈ lw_tbl := hz_tm1 (List.mem_of_getElem? (i := 86) rfl)
theorem ar_Z : Cond.arrayClass .boolean ∈ lw_tbl := hz_tm1 (List.mem_of_getElem? (i := 159) rfl)
theorem cl_X11_18 : Cond.classLink RX11 18 RX8 ∈ lw_tbl := hz_tm1 (List.mem_of_getElem? (i := 35) rfl)
theorem cl_X11_25 : Cond.classLink RX11 25 RX4 ∈ lw_tbl := hz_tm1 (List.mem_of_getElem? (i := 56) rfl)
theorem cl_X11_34 : Cond.classLink RX11 34 RX9 ∈ lw_tbl := hz_tm1 (List.mem_of_getElem? (i := 87) rfl)
theorem cl_X11_41 : Cond.classLink RX11 41 RX3 ∈ lw_tbl := hz_tm1 (List.mem_of_getElem? (i := 111) rfl)
theorem cl_X3_9 : Cond.classLink RX3 9 RX1 ∈ lw_tbl := hz_tm1 (List.mem_of_getElem? (i := 117) rfl)
theorem cl_X11_50 : Cond.classLink RX11 50 RX2 ∈ lw_tbl := hz_tm1 (List.mem_of_getElem? (i := 197) rfl)
theorem cl_X11_57 : Cond.classLink RX11 57 RX5 ∈ lw_tbl := hz_tm1 (List.mem_of_getElem? (i := 228) rfl)
theorem cl_X5_9 : Cond.classLink RX5 9 RX7 ∈ lw_tbl := hz_tm1 (List.mem_of_getElem? (i := 234) rfl)
theorem cl_X11_66 : Cond.classLink RX11 66 RX6 ∈ lw_tbl := hz_tm2 (List.mem_of_getElem? (i := 77) rfl)
theorem cl_X11_84 : Cond.classLink RX11 84 RX7 ∈ lw_tbl := hz_tm2 (List.mem_of_getElem? (i := 80) rfl)
theorem cl_X6_23 : Cond.classLink RX6 23 RX1 ∈ lw_tbl := hz_tm2 (List.mem_of_getElem? (i := 214) rfl)
theorem cl_X6_30 : Cond.classLink RX6 30 RX7 ∈ lw_tbl := hz_tm2 (List.mem_of_getElem? (i := 216) rfl)
theorem cl_X6_56 : Cond.classLink RX6 56 RX10 ∈ lw_tbl := hz_tm2 (List.mem_of_getElem? (i := 218) rfl)
theorem cl_X10_9 : Cond.classLink RX10 9 RX7 ∈ lw_tbl := hz_tm2 (List.mem_of_getElem? (i := 224) rfl)
theorem ob_X11_3 : Cond.methodLink RX11 3 objectInit ∈ lw_tbl := hz_tm1 (List.mem_of_getElem? (i := 26) rfl)
theorem ob_X8_3 : Cond.methodLink RX8 3 objectInit ∈ lw_tbl := hz_tm1 (List.mem_of_getElem? (i := 40) rfl)
theorem ob_X4_3 : Cond.methodLink RX4 3 objectInit ∈ lw_tbl := hz_tm1 (List.mem_of_getElem? (i := 61) rfl)
theorem ob_X9_3 : Cond.methodLink RX9 3 objectInit ∈ lw_tbl := hz_tm1 (List.mem_of_getElem? (i := 92) rfl)
theorem ob_X3_3 : Cond.methodLink RX3 3 objectInit ∈ lw_tbl := hz_tm1 (List.mem_of_getElem? (i := 116) rfl)
theorem ob_X1_3 : Cond.methodLink RX1 3 objectInit ∈ lw_tbl := hz_tm1 (List.mem_of_getElem? (i := 122) rfl)
theorem ob_X2_3 : Cond.methodLink RX2 3 objectInit ∈ lw_tbl := hz_tm1 (List.mem_of_getElem? (i := 202) rfl)
theorem ob_X5_3 : Cond.methodLink RX5 3 objectInit ∈ lw_tbl := hz_tm1 (List.mem_of_getElem? (i := 233) rfl)
theorem ob_X7_3 : Cond.methodLink RX7 3 objectInit ∈ lw_tbl := hz_tm2 (List.mem_of_getElem? (i := 0) rfl)
theorem ob_X6_3 : Cond.methodLink RX6 3 objectInit ∈ lw_tbl := hz_tm2 (List.mem_of_getElem? (i := 213) rfl)
theorem ob_X10_3 : Cond.methodLink RX10 3 objectInit ∈ lw_tbl := hz_tm2 (List.mem_of_getElem? (i := 223) rfl)
theorem ob_X12_1 : Cond.methodLink RX12 1 objectInit ∈ lw_tbl := hz_tm5 (List.mem_of_getElem? (i := 205) rfl)
section HZE
variable {κ : hz_C} {x : hz_X} {d mc ms : Nat} {P : hz_P} {cn sn pc : Nat} {lo : List (Nat × Value)} {st : List Value} {z : Nat} {M : hz_M}
theorem hz_nI {n : Nat} (hd : decode x.2.1 pc = .ok (.newarray .int, 2)) (hn : n < 67108864) (hc : cn + 1 ≤ mc) (hs : sn + n ≤ ms) (kk : hz_W κ x d mc ms P (cn + 1) (sn + n) (pc + 2) lo (.ref z :: st) (z + 1) (va_up M z (.inl (0, n, .inl (fun _ => 0))))) : hz_W κ x d mc ms P cn sn pc lo (.int (nI n) :: st) z M := hz_newa (t := 0) (g := .inl (fun _ => 0)) hd ar_I rfl rfl (fun _ => rfl) trivial (by omega) (by show n * 4 ≤ 536870912; omega) hc hs kk
theorem hz_nB {n : Nat} (hd : decode x.2.1 pc = .ok (.newarray .byte, 2)) (hn : n < 67108864) (hc : cn + 1 ≤ mc) (hs : sn + n ≤ ms) (kk : hz_W κ x d mc ms P (cn + 1) (sn + n) (pc + 2) lo (.ref z :: st) (z + 1) (va_up M z (.inl (1, n, .inl (fun _ => 0))))) : hz_W κ x d mc ms P cn sn pc lo (.int (nI n) :: st) z M := hz_newa (t := 1) (g := .inl (fun _ => 0)) hd ar_B rfl rfl (fun _ => rfl) (show hz_bf (.inl (1, n, .inl (fun _ => 0))) from fun _ _ => rfl) (by omega) (by show n * 1 ≤ 536870912; omega) hc hs kk
theorem hz_nJ {n : Nat} (hd : decode x.2.1 pc = .ok (.newarray .long, 2)) (hn : n < 67108864) (hc : cn + 1 ≤ mc) (hs : sn + n ≤ ms) (kk : hz_W κ x d mc ms P (cn + 1) (sn + n) (pc + 2) lo (.ref z :: st) (z + 1) (va_up M z (.inl (2, n, .inr (.inl (fun _ => 0)))))) : hz_W κ x d mc ms P cn sn pc lo (.int (nI n) :: st) z M := hz_newa (t := 2) (g := .inr (.inl (fun _ => 0))) hd ar_J rfl rfl (fun _ => rfl) trivial (by omega) (by show n * 8 ≤ 536870912; omega) hc hs kk
theorem hz_nZ {n : Nat} (hd : decode x.2.1 pc = .ok (.newarray .boolean, 2)) (hn : n < 67108864) (hc : cn + 1 ≤ mc) (hs : sn + n ≤ ms) (kk : hz_W κ x d mc ms P (cn + 1) (sn + n) (pc + 2) lo (.ref z :: st) (z + 1) (va_up M z (.inl (3, n, .inl (fun _ => 0))))) : hz_W κ x d mc ms P cn sn pc lo (.int (nI n) :: st) z M := hz_newa (t := 3) (g := .inl (fun _ => 0)) hd ar_Z rfl rfl (fun _ => rfl) (show hz_bf (.inl (3, n, .inl (fun _ => 0))) from fun _ _ => Or.inl rfl) (by omega) (by show n * 1 ≤ 536870912; omega) hc hs kk
theorem is_X1 : Cond.instantiable RX1 8 ∈ lw_tbl := hz_tm1 (List.mem_of_getElem? (i := 118) rfl)
theorem df_X1 : ∀ j, j < 8 → defaultValue (tyX1 j) = vp_V [.null, .null, .null, .null, .null, .null, .int (nI 0), .null] j := by
  intro j hj
  match j, hj with
  | 0, _ => rfl
  | 1, _ => rfl
  | 2, _ => rfl
  | 3, _ => rfl
  | 4, _ => rfl
  | 5, _ => rfl
  | 6, _ => rfl
  | 7, _ => rfl
  | n + 8, h => exact absurd h (by omega)
theorem hz_nX1 {idx : Nat} (hd : decode x.2.1 pc = .ok (.new idx, 3)) (hlk : Cond.classLink x.1.cls idx RX1 ∈ lw_tbl) (hc : cn + 1 ≤ mc) (hs : sn + 8 ≤ ms) (kk : hz_W κ x d mc ms P (cn + 1) (sn + 8) (pc + 3) lo (.ref z :: st) (z + 1) (va_up M z (.inr (1, [.null, .null, .null, .null, .null, .null, .int (nI 0), .null])))) : hz_W κ x d mc ms P cn sn pc lo st z M := hz_new hd (ci := 1) rfl inX1 tyX1 tyX1_ok hlk is_X1 ini_X1 df_X1 rfl hc hs kk
theorem is_X2 : Cond.instantiable RX2 7 ∈ lw_tbl := hz_tm1 (List.mem_of_getElem? (i := 198) rfl)
theorem df_X2 : ∀ j, j < 7 → defaultValue (tyX2 j) = vp_V [.int (nI 0), .null, .null, .null, .int (nI 0), .null, .null] j := by
  intro j hj
  match j, hj with
  | 0, _ => rfl
  | 1, _ => rfl
  | 2, _ => rfl
  | 3, _ => rfl
  | 4, _ => rfl
  | 5, _ => rfl
  | 6, _ => rfl
  | n + 7, h => exact absurd h (by omega)
theorem hz_nX2 {idx : Nat} (hd : decode x.2.1 pc = .ok (.new idx, 3)) (hlk : Cond.classLink x.1.cls idx RX2 ∈ lw_tbl) (hc : cn + 1 ≤ mc) (hs : sn + 7 ≤ ms) (kk : hz_W κ x d mc ms P (cn + 1) (sn + 7) (pc + 3) lo (.ref z :: st) (z + 1) (va_up M z (.inr (2, [.int (nI 0), .null, .null, .null, .int (nI 0), .null, .null])))) : hz_W κ x d mc ms P cn sn pc lo st z M := hz_new hd (ci := 2) rfl inX2 tyX2 tyX2_ok hlk is_X2 ini_X2 df_X2 rfl hc hs kk
theorem is_X3 : Cond.instantiable RX3 11 ∈ lw_tbl := hz_tm1 (List.mem_of_getElem? (i := 112) rfl)
theorem df_X3 : ∀ j, j < 11 → defaultValue (tyX3 j) = vp_V [.null, .null, .null, .null, .null, .null, .null, .null, .null, .int (nI 0), .long 0] j := by
  intro j hj
  match j, hj with
  | 0, _ => rfl
  | 1, _ => rfl
  | 2, _ => rfl
  | 3, _ => rfl
  | 4, _ => rfl
  | 5, _ => rfl
  | 6, _ => rfl
  | 7, _ => rfl
  | 8, _ => rfl
  | 9, _ => rfl
  | 10, _ => rfl
  | n + 11, h => exact absurd h (by omega)
theorem hz_nX3 {idx : Nat} (hd : decode x.2.1 pc = .ok (.new idx, 3)) (hlk : Cond.classLink x.1.cls idx RX3 ∈ lw_tbl) (hc : cn + 1 ≤ mc) (hs : sn + 11 ≤ ms) (kk : hz_W κ x d mc ms P (cn + 1) (sn + 11) (pc + 3) lo (.ref z :: st) (z + 1) (va_up M z (.inr (3, [.null, .null, .null, .null, .null, .null, .null, .null, .null, .int (nI 0), .long 0])))) : hz_W κ x d mc ms P cn sn pc lo st z M := hz_new hd (ci := 3) rfl inX3 tyX3 tyX3_ok hlk is_X3 ini_X3 df_X3 rfl hc hs kk
theorem is_X4 : Cond.instantiable RX4 7 ∈ lw_tbl := hz_tm1 (List.mem_of_getElem? (i := 57) rfl)
theorem df_X4 : ∀ j, j < 7 → defaultValue (tyX4 j) = vp_V [.null, .null, .null, .null, .null, .null, .null] j := by
  intro j hj
  match j, hj with
  | 0, _ => rfl
  | 1, _ => rfl
  | 2, _ => rfl
  | 3, _ => rfl
  | 4, _ => rfl
  | 5, _ => rfl
  | 6, _ => rfl
  | n + 7, h => exact absurd h (by omega)
theorem hz_nX4 {idx : Nat} (hd : decode x.2.1 pc = .ok (.new idx, 3)) (hlk : Cond.classLink x.1.cls idx RX4 ∈ lw_tbl) (hc : cn + 1 ≤ mc) (hs : sn + 7 ≤ ms) (kk : hz_W κ x d mc ms P (cn + 1) (sn + 7) (pc + 3) lo (.ref z :: st) (z + 1) (va_up M z (.inr (4, [.null, .null, .null, .null, .null, .null, .null])))) : hz_W κ x d mc ms P cn sn pc lo st z M := hz_new hd (ci := 4) rfl inX4 tyX4 tyX4_ok hlk is_X4 ini_X4 df_X4 rfl hc hs kk
theorem is_X5 : Cond.instantiable RX5 13 ∈ lw_tbl := hz_tm1 (List.mem_of_getElem? (i := 229) rfl)
theorem df_X5 : ∀ j, j < 13 → defaultValue (tyX5 j) = vp_V [.null, .null, .null, .null, .null, .int (nI 0), .null, .int (nI 0), .int (nI 0), .null, .int (nI 0), .int (nI 0), .int (nI 0)] j := by
  intro j hj
  match j, hj with
  | 0, _ => rfl
  | 1, _ => rfl
  | 2, _ => rfl
  | 3, _ => rfl
  | 4, _ => rfl
  | 5, _ => rfl
  | 6, _ => rfl
  | 7, _ => rfl
  | 8, _ => rfl
  | 9, _ => rfl
  | 10, _ => rfl
  | 11, _ => rfl
  | 12, _ => rfl
  | n + 13, h => exact absurd h (by omega)
theorem hz_nX5 {idx : Nat} (hd : decode x.2.1 pc = .ok (.new idx, 3)) (hlk : Cond.classLink x.1.cls idx RX5 ∈ lw_tbl) (hc : cn + 1 ≤ mc) (hs : sn + 13 ≤ ms) (kk : hz_W κ x d mc ms P (cn + 1) (sn + 13) (pc + 3) lo (.ref z :: st) (z + 1) (va_up M z (.inr (5, [.null, .null, .null, .null, .null, .int (nI 0), .null, .int (nI 0), .int (nI 0), .null, .int (nI 0), .int (nI 0), .int (nI 0)])))) : hz_W κ x d mc ms P cn sn pc lo st z M := hz_new hd (ci := 5) rfl inX5 tyX5 tyX5_ok hlk is_X5 ini_X5 df_X5 rfl hc hs kk
theorem is_X6 : Cond.instantiable RX6 14 ∈ lw_tbl := hz_tm2 (List.mem_of_getElem? (i := 209) rfl)
theorem df_X6 : ∀ j, j < 14 → defaultValue (tyX6 j) = vp_V [.int (nI 0), .int (nI 0), .null, .int (nI 0), .int (nI 0), .null, .null, .null, .null, .null, .null, .null, .int (nI 0), .int (nI 0)] j := by
  intro j hj
  match j, hj with
  | 0, _ => rfl
  | 1, _ => rfl
  | 2, _ => rfl
  | 3, _ => rfl
  | 4, _ => rfl
  | 5, _ => rfl
  | 6, _ => rfl
  | 7, _ => rfl
  | 8, _ => rfl
  | 9, _ => rfl
  | 10, _ => rfl
  | 11, _ => rfl
  | 12, _ => rfl
  | 13, _ => rfl
  | n + 14, h => exact absurd h (by omega)
theorem hz_nX6 {idx : Nat} (hd : decode x.2.1 pc = .ok (.new idx, 3)) (hlk : Cond.classLink x.1.cls idx RX6 ∈ lw_tbl) (hc : cn + 1 ≤ mc) (hs : sn + 14 ≤ ms) (kk : hz_W κ x d mc ms P (cn + 1) (sn + 14) (pc + 3) lo (.ref z :: st) (z + 1) (va_up M z (.inr (6, [.int (nI 0), .int (nI 0), .null, .int (nI 0), .int (nI 0), .null, .null, .null, .null, .null, .null, .null, .int (nI 0), .int (nI 0)])))) : hz_W κ x d mc ms P cn sn pc lo st z M := hz_new hd (ci := 6) rfl inX6 tyX6 tyX6_ok hlk is_X6 ini_X6 df_X6 rfl hc hs kk
theorem is_X7 : Cond.instantiable RX7 3 ∈ lw_tbl := hz_tm1 (List.mem_of_getElem? (i := 235) rfl)
theorem df_X7 : ∀ j, j < 3 → defaultValue (tyX7 j) = vp_V [.null, .null, .int (nI 0)] j := by
  intro j hj
  match j, hj with
  | 0, _ => rfl
  | 1, _ => rfl
  | 2, _ => rfl
  | n + 3, h => exact absurd h (by omega)
theorem hz_nX7 {idx : Nat} (hd : decode x.2.1 pc = .ok (.new idx, 3)) (hlk : Cond.classLink x.1.cls idx RX7 ∈ lw_tbl) (hc : cn + 1 ≤ mc) (hs : sn + 3 ≤ ms) (kk : hz_W κ x d mc ms P (cn + 1) (sn + 3) (pc + 3) lo (.ref z :: st) (z + 1) (va_up M z (.inr (7, [.null, .null, .int (nI 0)])))) : hz_W κ x d mc ms P cn sn pc lo st z M := hz_new hd (ci := 7) rfl inX7 tyX7 tyX7_ok hlk is_X7 ini_X7 df_X7 rfl hc hs kk
theorem is_X8 : Cond.instantiable RX8 3 ∈ lw_tbl := hz_tm1 (List.mem_of_getElem? (i := 36) rfl)
theorem df_X8 : ∀ j, j < 3 → defaultValue (tyX8 j) = vp_V [.null, .null, .null] j := by
  intro j hj
  match j, hj with
  | 0, _ => rfl
  | 1, _ => rfl
  | 2, _ => rfl
  | n + 3, h => exact absurd h (by omega)
theorem hz_nX8 {idx : Nat} (hd : decode x.2.1 pc = .ok (.new idx, 3)) (hlk : Cond.classLink x.1.cls idx RX8 ∈ lw_tbl) (hc : cn + 1 ≤ mc) (hs : sn + 3 ≤ ms) (kk : hz_W κ x d mc ms P (cn + 1) (sn + 3) (pc + 3) lo (.ref z :: st) (z + 1) (va_up M z (.inr (8, [.null, .null, .null])))) : hz_W κ x d mc ms P cn sn pc lo st z M := hz_new hd (ci := 8) rfl inX8 tyX8 tyX8_ok hlk is_X8 ini_X8 df_X8 rfl hc hs kk
theorem is_X9 : Cond.instantiable RX9 5 ∈ lw_tbl := hz_tm1 (List.mem_of_getElem? (i := 88) rfl)
theorem df_X9 : ∀ j, j < 5 → defaultValue (tyX9 j) = vp_V [.null, .null, .null, .null, .int (nI 0)] j := by
  intro j hj
  match j, hj with
  | 0, _ => rfl
  | 1, _ => rfl
  | 2, _ => rfl
  | 3, _ => rfl
  | 4, _ => rfl
  | n + 5, h => exact absurd h (by omega)
theorem hz_nX9 {idx : Nat} (hd : decode x.2.1 pc = .ok (.new idx, 3)) (hlk : Cond.classLink x.1.cls idx RX9 ∈ lw_tbl) (hc : cn + 1 ≤ mc) (hs : sn + 5 ≤ ms) (kk : hz_W κ x d mc ms P (cn + 1) (sn + 5) (pc + 3) lo (.ref z :: st) (z + 1) (va_up M z (.inr (9, [.null, .null, .null, .null, .int (nI 0)])))) : hz_W κ x d mc ms P cn sn pc lo st z M := hz_new hd (ci := 9) rfl inX9 tyX9 tyX9_ok hlk is_X9 ini_X9 df_X9 rfl hc hs kk
theorem is_X10 : Cond.instantiable RX10 12 ∈ lw_tbl := hz_tm2 (List.mem_of_getElem? (i := 219) rfl)
theorem df_X10 : ∀ j, j < 12 → defaultValue (tyX10 j) = vp_V [.null, .null, .null, .null, .null, .null, .null, .null, .int (nI 0), .null, .null, .null] j := by
  intro j hj
  match j, hj with
  | 0, _ => rfl
  | 1, _ => rfl
  | 2, _ => rfl
  | 3, _ => rfl
  | 4, _ => rfl
  | 5, _ => rfl
  | 6, _ => rfl
  | 7, _ => rfl
  | 8, _ => rfl
  | 9, _ => rfl
  | 10, _ => rfl
  | 11, _ => rfl
  | n + 12, h => exact absurd h (by omega)
theorem hz_nX10 {idx : Nat} (hd : decode x.2.1 pc = .ok (.new idx, 3)) (hlk : Cond.classLink x.1.cls idx RX10 ∈ lw_tbl) (hc : cn + 1 ≤ mc) (hs : sn + 12 ≤ ms) (kk : hz_W κ x d mc ms P (cn + 1) (sn + 12) (pc + 3) lo (.ref z :: st) (z + 1) (va_up M z (.inr (10, [.null, .null, .null, .null, .null, .null, .null, .null, .int (nI 0), .null, .null, .null])))) : hz_W κ x d mc ms P cn sn pc lo st z M := hz_new hd (ci := 10) rfl inX10 tyX10 tyX10_ok hlk is_X10 ini_X10 df_X10 rfl hc hs kk
theorem is_X11 : Cond.instantiable RX11 13 ∈ lw_tbl := hz_tm1 (List.mem_of_getElem? (i := 22) rfl)
theorem df_X11 : ∀ j, j < 13 → defaultValue (tyX11 j) = vp_V [.null, .null, .null, .null, .null, .null, .null, .null, .int (nI 0), .int (nI 0), .null, .null, .null] j := by
  intro j hj
  match j, hj with
  | 0, _ => rfl
  | 1, _ => rfl
  | 2, _ => rfl
  | 3, _ => rfl
  | 4, _ => rfl
  | 5, _ => rfl
  | 6, _ => rfl
  | 7, _ => rfl
  | 8, _ => rfl
  | 9, _ => rfl
  | 10, _ => rfl
  | 11, _ => rfl
  | 12, _ => rfl
  | n + 13, h => exact absurd h (by omega)
theorem hz_nX11 {idx : Nat} (hd : decode x.2.1 pc = .ok (.new idx, 3)) (hlk : Cond.classLink x.1.cls idx RX11 ∈ lw_tbl) (hc : cn + 1 ≤ mc) (hs : sn + 13 ≤ ms) (kk : hz_W κ x d mc ms P (cn + 1) (sn + 13) (pc + 3) lo (.ref z :: st) (z + 1) (va_up M z (.inr (11, [.null, .null, .null, .null, .null, .null, .null, .null, .int (nI 0), .int (nI 0), .null, .null, .null])))) : hz_W κ x d mc ms P cn sn pc lo st z M := hz_new hd (ci := 11) rfl inX11 tyX11 tyX11_ok hlk is_X11 ini_X11 df_X11 rfl hc hs kk
theorem is_X12 : Cond.instantiable RX12 106 ∈ lw_tbl := hz_tm5 (List.mem_of_getElem? (i := 201) rfl)
theorem df_X12 : ∀ j, j < 106 → defaultValue (tyX12 j) = vp_V [.int (nI 0), .int (nI 0), .null, .null, .null, .null, .null, .null, .null, .null, .null, .null, .null, .null, .null, .null, .int (nI 0), .null, .null, .null, .null, .null, .null, .null, .null, .null, .null, .null, .null, .null, .null, .null, .null, .null, .null, .null, .null, .int (nI 0), .null, .int (nI 0), .null, .null, .null, .null, .null, .null, .null, .null, .null, .null, .null, .null, .null, .int (nI 0), .int (nI 0), .int (nI 0), .null, .null, .null, .long 0, .null, .int (nI 0), .null, .null, .null, .null, .null, .null, .null, .null, .null, .null, .null, .null, .null, .null, .null, .null, .null, .null, .null, .null, .null, .null, .null, .null, .int (nI 0), .int (nI 0), .int (nI 0), .int (nI 0), .null, .null, .int (nI 0), .null, .null, .int (nI 0), .int (nI 0), .null, .null, .null, .int (nI 0), .null, .null, .int (nI 0), .null, .null] j := by
  intro j hj
  match j, hj with
  | 0, _ => rfl
  | 1, _ => rfl
  | 2, _ => rfl
  | 3, _ => rfl
  | 4, _ => rfl
  | 5, _ => rfl
  | 6, _ => rfl
  | 7, _ => rfl
  | 8, _ => rfl
  | 9, _ => rfl
  | 10, _ => rfl
  | 11, _ => rfl
  | 12, _ => rfl
  | 13, _ => rfl
  | 14, _ => rfl
  | 15, _ => rfl
  | 16, _ => rfl
  | 17, _ => rfl
  | 18, _ => rfl
  | 19, _ => rfl
  | 20, _ => rfl
  | 21, _ => rfl
  | 22, _ => rfl
  | 23, _ => rfl
  | 24, _ => rfl
  | 25, _ => rfl
  | 26, _ => rfl
  | 27, _ => rfl
  | 28, _ => rfl
  | 29, _ => rfl
  | 30, _ => rfl
  | 31, _ => rfl
  | 32, _ => rfl
  | 33, _ => rfl
  | 34, _ => rfl
  | 35, _ => rfl
  | 36, _ => rfl
  | 37, _ => rfl
  | 38, _ => rfl
  | 39, _ => rfl
  | 40, _ => rfl
  | 41, _ => rfl
  | 42, _ => rfl
  | 43, _ => rfl
  | 44, _ => rfl
  | 45, _ => rfl
  | 46, _ => rfl
  | 47, _ => rfl
  | 48, _ => rfl
  | 49, _ => rfl
  | 50, _ => rfl
  | 51, _ => rfl
  | 52, _ => rfl
  | 53, _ => rfl
  | 54, _ => rfl
  | 55, _ => rfl
  | 56, _ => rfl
  | 57, _ => rfl
  | 58, _ => rfl
  | 59, _ => rfl
  | 60, _ => rfl
  | 61, _ => rfl
  | 62, _ => rfl
  | 63, _ => rfl
  | 64, _ => rfl
  | 65, _ => rfl
  | 66, _ => rfl
  | 67, _ => rfl
  | 68, _ => rfl
  | 69, _ => rfl
  | 70, _ => rfl
  | 71, _ => rfl
  | 72, _ => rfl
  | 73, _ => rfl
  | 74, _ => rfl
  | 75, _ => rfl
  | 76, _ => rfl
  | 77, _ => rfl
  | 78, _ => rfl
  | 79, _ => rfl
  | 80, _ => rfl
  | 81, _ => rfl
  | 82, _ => rfl
  | 83, _ => rfl
  | 84, _ => rfl
  | 85, _ => rfl
  | 86, _ => rfl
  | 87, _ => rfl
  | 88, _ => rfl
  | 89, _ => rfl
  | 90, _ => rfl
  | 91, _ => rfl
  | 92, _ => rfl
  | 93, _ => rfl
  | 94, _ => rfl
  | 95, _ => rfl
  | 96, _ => rfl
  | 97, _ => rfl
  | 98, _ => rfl
  | 99, _ => rfl
  | 100, _ => rfl
  | 101, _ => rfl
  | 102, _ => rfl
  | 103, _ => rfl
  | 104, _ => rfl
  | 105, _ => rfl
  | n + 106, h => exact absurd h (by omega)
theorem hz_nX12 {idx : Nat} (hd : decode x.2.1 pc = .ok (.new idx, 3)) (hlk : Cond.classLink x.1.cls idx RX12 ∈ lw_tbl) (hc : cn + 1 ≤ mc) (hs : sn + 106 ≤ ms) (kk : hz_W κ x d mc ms P (cn + 1) (sn + 106) (pc + 3) lo (.ref z :: st) (z + 1) (va_up M z (.inr (12, [.int (nI 0), .int (nI 0), .null, .null, .null, .null, .null, .null, .null, .null, .null, .null, .null, .null, .null, .null, .int (nI 0), .null, .null, .null, .null, .null, .null, .null, .null, .null, .null, .null, .null, .null, .null, .null, .null, .null, .null, .null, .null, .int (nI 0), .null, .int (nI 0), .null, .null, .null, .null, .null, .null, .null, .null, .null, .null, .null, .null, .null, .int (nI 0), .int (nI 0), .int (nI 0), .null, .null, .null, .long 0, .null, .int (nI 0), .null, .null, .null, .null, .null, .null, .null, .null, .null, .null, .null, .null, .null, .null, .null, .null, .null, .null, .null, .null, .null, .null, .null, .null, .int (nI 0), .int (nI 0), .int (nI 0), .int (nI 0), .null, .null, .int (nI 0), .null, .null, .int (nI 0), .int (nI 0), .null, .null, .null, .int (nI 0), .null, .null, .int (nI 0), .null, .null])))) : hz_W κ x d mc ms P cn sn pc lo st z M := hz_new hd (ci := 12) rfl inX12 tyX12 tyX12_ok hlk is_X12 ini_X12 df_X12 rfl hc hs kk
end HZE
