/-! the reference: its fields; SHA-256 -/
def md_off (k : Nat) : Nat := ([0, 0, 1, 2, 3, 4, 5, 6, 7, 8, 9, 10, 11, 12, 13, 14, 0, 15, 16, 17, 18, 19, 20, 21, 22, 23, 24, 25, 26, 27, 28, 29, 30, 31, 32, 33, 34, 0, 35, 0, 36, 37, 38, 39, 40, 41, 42, 43, 44, 45, 46, 47, 48, 0, 0, 0, 49, 50, 51, 0, 52, 0, 53, 54, 55, 56, 57, 58, 59, 60, 61, 62, 63, 64, 65, 66, 67, 68, 69, 70, 71, 72, 73, 74, 75, 76, 0, 0, 0, 0, 77, 78, 0, 79, 80, 0, 0, 81, 82, 83, 0, 84, 85, 0, 86, 87] : List Nat).getD k 0
/-- the fields of the reference's object at B: its arrays lie behind it in order -/
def md_F (B : Nat) (fs : List Value) : Prop := fs.length = 106 ∧ ∀ k, k < 106 → ¬ md_off k = 0 → fs[k]? = some (.ref (B + md_off k))
theorem md_set {B k : Nat} {fs : List Value} {v : Value} (h : md_F B fs) (hk : md_off k = 0) : md_F B (fs.set k v) := by
  refine ⟨by rw [List.length_set]; exact h.1, fun j hj hn => ?_⟩
  rw [List.getElem?_set_ne (fun e => hn (by rw [← e]; exact hk))]
  exact h.2 j hj hn
def sh_dg (h : Nat → Int32) (i : Nat) : Int32 := (h (i / 4) >>> (nI (24 - 8 * (i % 4)) &&& 31)).toInt8.toInt32.toInt8.toInt32

set_option maxHeartbeats 4000000 in
set_option maxRecDepth 100000 in
theorem c_right {κ : hz_C} {z : Nat} {M : hz_M} {x : Int32} {n : Nat} (hn : n ≤ 32) : hz_Mt κ xX12_right 0 0 0 [.int x, .int (nI n)] z M (hz_ex (some (.int (sh_rot x n))) z M) := by
  refine hz_ent (lo := [(0, .int x), (1, .int (nI n))]) (by decide) (Nat.le_of_ble_eq_true rfl) rfl ?_
  refine hz_iloadn (pc := 0) 0 (hz_dec kX12_right 0 rfl) rfl ?_
  refine hz_iloadn (pc := 1) 1 (hz_dec kX12_right 1 rfl) rfl ?_
  refine hz_iushr (pc := 2) (hz_dec kX12_right 2 rfl) ?_
  refine hz_iloadn (pc := 3) 0 (hz_dec kX12_right 3 rfl) rfl ?_
  refine hz_bipush (pc := 4) (v := nI 32) (hz_dec kX12_right 4 rfl) (by decide) ?_
  refine hz_iloadn (pc := 6) 1 (hz_dec kX12_right 5 rfl) rfl ?_
  refine hz_subN (pc := 7) (hz_dec kX12_right 6 rfl) (by omega) ?_
  refine hz_ishl (pc := 8) (hz_dec kX12_right 7 rfl) ?_
  refine hz_ior (pc := 9) (hz_dec kX12_right 8 rfl) ?_
  exact hz_iret (pc := 10) (hz_dec kX12_right 9 rfl) rfl ⟨rfl, rfl, rfl⟩
set_option maxHeartbeats 4000000 in
set_option maxRecDepth 100000 in
theorem l_twS {κ : hz_C} {z : Nat} {M : hz_M} {P : hz_P} {B : Nat} {fs : List Value} (hO : M B = .inr (12, fs)) (hF : md_F B fs) (h8 : 8 ≤ B) (hz : B + 88 ≤ z) {v u fa : Nat → Int32} (hst : M (B + 3) = .inl (0, 8, .inl v)) (hwo : M (B + 4) = .inl (0, 64, .inl u)) (had : M (B + 2) = .inl (0, 64, .inl fa)) (hfa : ∀ j, j < 64 → fa j = hz_sf 1 j) (K : hz_W κ xX12_turnWords 1 0 0 P 0 0 96 [(0, .ref B)] [] z (va_up M (B + 4) (.inl (0, 64, .inl (sh_ext u 48))))) : ∀ k q, k = 48 - q → q ≤ 48 → hz_W κ xX12_turnWords 1 0 0 P 0 0 3 [(1, .int (nI (16 + q))), (0, .ref B)] [] z (va_up M (B + 4) (.inl (0, 64, .inl (sh_ext u q)))) := by
  intro k
  induction k using Nat.strongRecOn with
  | ind k ih =>
  intro q hk hq
  refine hz_iloadn (pc := 3) 0 (hz_dec kX12_turnWords 2 rfl) rfl ?_
  refine hz_bipush (pc := 4) (v := nI 64) (hz_dec kX12_turnWords 3 rfl) (by decide) ?_
  refine hz_n_ge (pc := 6) (tgt := 96) (hz_dec kX12_turnWords 4 rfl) (by decide) (by omega) (by omega) (fun h1 => ?_) (fun h1 => ?_)
  · skip
    have e : q = 48 := by omega
    subst e
    refine hz_pick (pc := 96) [1] rfl ?_
    exact K
  · skip
    refine hz_aloadn (pc := 9) 1 (hz_dec kX12_turnWords 5 rfl) rfl ?_
    refine hz_get (pc := 10) (v := .ref (B + 4)) (hz_dec kX12_turnWords 6 rfl) fo_X12_19 (hz_mne hO (by omega)) h8 (by omega) (hF.2 5 (by decide) (by decide)) ?_
    refine hz_iloadn (pc := 13) 0 (hz_dec kX12_turnWords 7 rfl) rfl ?_
    refine hz_bipush (pc := 14) (v := nI 15) (hz_dec kX12_turnWords 8 rfl) (by decide) ?_
    refine hz_subN (pc := 16) (hz_dec kX12_turnWords 9 rfl) (by omega) ?_
    refine hz_iald (pc := 17) (j := q + 1) (hz_dec kX12_turnWords 10 rfl) (va_up_self _ _ _) (by omega) (by omega) (by rw [show 16 + q - 15 = q + 1 by omega]) (by omega) (by decide) ?_
    refine hz_topi (pc := 18) (fun y1 ey1 => ?_)
    refine hz_istoren (pc := 18) (i := 2) (lo2 := [(2, .int y1), (1, .int (nI (16 + q))), (0, .ref B)]) (hz_dec kX12_turnWords 11 rfl) rfl (by decide) rfl ?_
    refine hz_aloadn (pc := 19) 2 (hz_dec kX12_turnWords 12 rfl) rfl ?_
    refine hz_get (pc := 20) (v := .ref (B + 4)) (hz_dec kX12_turnWords 13 rfl) fo_X12_19 (hz_mne hO (by omega)) h8 (by omega) (hF.2 5 (by decide) (by decide)) ?_
    refine hz_iloadn (pc := 23) 1 (hz_dec kX12_turnWords 14 rfl) rfl ?_
    refine hz_iconst (pc := 24) (v := nI 2) (hz_dec kX12_turnWords 15 rfl) (by decide) ?_
    refine hz_subN (pc := 25) (hz_dec kX12_turnWords 16 rfl) (by omega) ?_
    refine hz_iald (pc := 26) (j := q + 14) (hz_dec kX12_turnWords 17 rfl) (va_up_self _ _ _) (by omega) (by omega) (by rw [show 16 + q - 2 = q + 14 by omega]) (by omega) (by decide) ?_
    refine hz_topi (pc := 27) (fun y2 ey2 => ?_)
    refine hz_istoren (pc := 27) (i := 3) (lo2 := [(3, .int y2), (2, .int y1), (1, .int (nI (16 + q))), (0, .ref B)]) (hz_dec kX12_turnWords 18 rfl) rfl (by decide) rfl ?_
    refine hz_aloadn (pc := 28) 3 (hz_dec kX12_turnWords 19 rfl) rfl ?_
    refine hz_get (pc := 29) (v := .ref (B + 4)) (hz_dec kX12_turnWords 20 rfl) fo_X12_19 (hz_mne hO (by omega)) h8 (by omega) (hF.2 5 (by decide) (by decide)) ?_
    refine hz_iloadn (pc := 32) 2 (hz_dec kX12_turnWords 21 rfl) rfl ?_
    refine hz_aloadn (pc := 33) 3 (hz_dec kX12_turnWords 22 rfl) rfl ?_
    refine hz_get (pc := 34) (v := .ref (B + 4)) (hz_dec kX12_turnWords 23 rfl) fo_X12_19 (hz_mne hO (by omega)) h8 (by omega) (hF.2 5 (by decide) (by decide)) ?_
    refine hz_iloadn (pc := 37) 2 (hz_dec kX12_turnWords 24 rfl) rfl ?_
    refine hz_bipush (pc := 38) (v := nI 16) (hz_dec kX12_turnWords 25 rfl) (by decide) ?_
    refine hz_subN (pc := 40) (hz_dec kX12_turnWords 26 rfl) (by omega) ?_
    refine hz_iald (pc := 41) (j := q) (hz_dec kX12_turnWords 27 rfl) (va_up_self _ _ _) (by omega) (by omega) (by rw [show 16 + q - 16 = q by omega]) (by omega) (by decide) ?_
    refine hz_aloadn (pc := 42) 3 (hz_dec kX12_turnWords 28 rfl) rfl ?_
    refine hz_get (pc := 43) (v := .ref (B + 4)) (hz_dec kX12_turnWords 29 rfl) fo_X12_19 (hz_mne hO (by omega)) h8 (by omega) (hF.2 5 (by decide) (by decide)) ?_
    refine hz_iloadn (pc := 46) 2 (hz_dec kX12_turnWords 30 rfl) rfl ?_
    refine hz_bipush (pc := 47) (v := nI 7) (hz_dec kX12_turnWords 31 rfl) (by decide) ?_
    refine hz_subN (pc := 49) (hz_dec kX12_turnWords 32 rfl) (by omega) ?_
    refine hz_iald (pc := 50) (j := q + 9) (hz_dec kX12_turnWords 33 rfl) (va_up_self _ _ _) (by omega) (by omega) (by rw [show 16 + q - 7 = q + 9 by omega]) (by omega) (by decide) ?_
    refine hz_iadd (pc := 51) (hz_dec kX12_turnWords 34 rfl) ?_
    refine hz_iloadn (pc := 52) 1 (hz_dec kX12_turnWords 35 rfl) rfl ?_
    refine hz_bipush (pc := 53) (v := nI 7) (hz_dec kX12_turnWords 36 rfl) (by decide) ?_
    refine hz_xS (pc := 55) (As := [.int y1, .int (nI 7)]) (st := [.int (((sh_ext u q) q) + ((sh_ext u q) (q + 9))), .int (nI (16 + q)), .ref (B + 4)]) (hz_dec kX12_turnWords 37 rfl) co_X12_319 sc_X12_right (c_right (by decide)) rfl (by decide) ⟨Nat.le_refl _, Nat.le_refl _⟩ (Nat.le_of_ble_eq_true rfl) rfl ?_
    refine hz_iloadn (pc := 58) 1 (hz_dec kX12_turnWords 38 rfl) rfl ?_
    refine hz_bipush (pc := 59) (v := nI 18) (hz_dec kX12_turnWords 39 rfl) (by decide) ?_
    refine hz_xS (pc := 61) (As := [.int y1, .int (nI 18)]) (st := [.int (sh_rot (y1) 7), .int (((sh_ext u q) q) + ((sh_ext u q) (q + 9))), .int (nI (16 + q)), .ref (B + 4)]) (hz_dec kX12_turnWords 40 rfl) co_X12_319 sc_X12_right (c_right (by decide)) rfl (by decide) ⟨Nat.le_refl _, Nat.le_refl _⟩ (Nat.le_of_ble_eq_true rfl) rfl ?_
    refine hz_ixor (pc := 64) (hz_dec kX12_turnWords 41 rfl) ?_
    refine hz_iloadn (pc := 65) 1 (hz_dec kX12_turnWords 42 rfl) rfl ?_
    refine hz_iconst (pc := 66) (v := nI 3) (hz_dec kX12_turnWords 43 rfl) (by decide) ?_
    refine hz_iushr (pc := 67) (hz_dec kX12_turnWords 44 rfl) ?_
    refine hz_ixor (pc := 68) (hz_dec kX12_turnWords 45 rfl) ?_
    refine hz_iadd (pc := 69) (hz_dec kX12_turnWords 46 rfl) ?_
    refine hz_iloadn (pc := 70) 0 (hz_dec kX12_turnWords 47 rfl) rfl ?_
    refine hz_bipush (pc := 71) (v := nI 17) (hz_dec kX12_turnWords 48 rfl) (by decide) ?_
    refine hz_xS (pc := 73) (As := [.int y2, .int (nI 17)]) (st := [.int ((((sh_ext u q) q) + ((sh_ext u q) (q + 9))) + (((sh_rot (y1) 7) ^^^ (sh_rot (y1) 18)) ^^^ (((y1).toUInt32 >>> ((nI (3)).toUInt32 &&& Int32.toUInt32 31)).toInt32))), .int (nI (16 + q)), .ref (B + 4)]) (hz_dec kX12_turnWords 49 rfl) co_X12_319 sc_X12_right (c_right (by decide)) rfl (by decide) ⟨Nat.le_refl _, Nat.le_refl _⟩ (Nat.le_of_ble_eq_true rfl) rfl ?_
    refine hz_iloadn (pc := 76) 0 (hz_dec kX12_turnWords 50 rfl) rfl ?_
    refine hz_bipush (pc := 77) (v := nI 19) (hz_dec kX12_turnWords 51 rfl) (by decide) ?_
    refine hz_xS (pc := 79) (As := [.int y2, .int (nI 19)]) (st := [.int (sh_rot (y2) 17), .int ((((sh_ext u q) q) + ((sh_ext u q) (q + 9))) + (((sh_rot (y1) 7) ^^^ (sh_rot (y1) 18)) ^^^ (((y1).toUInt32 >>> ((nI (3)).toUInt32 &&& Int32.toUInt32 31)).toInt32))), .int (nI (16 + q)), .ref (B + 4)]) (hz_dec kX12_turnWords 52 rfl) co_X12_319 sc_X12_right (c_right (by decide)) rfl (by decide) ⟨Nat.le_refl _, Nat.le_refl _⟩ (Nat.le_of_ble_eq_true rfl) rfl ?_
    refine hz_ixor (pc := 82) (hz_dec kX12_turnWords 53 rfl) ?_
    refine hz_iloadn (pc := 83) 0 (hz_dec kX12_turnWords 54 rfl) rfl ?_
    refine hz_bipush (pc := 84) (v := nI 10) (hz_dec kX12_turnWords 55 rfl) (by decide) ?_
    refine hz_iushr (pc := 86) (hz_dec kX12_turnWords 56 rfl) ?_
    refine hz_ixor (pc := 87) (hz_dec kX12_turnWords 57 rfl) ?_
    refine hz_iadd (pc := 88) (hz_dec kX12_turnWords 58 rfl) ?_
    refine hz_iast (pc := 89) (j := 16 + q) (hz_dec kX12_turnWords 59 rfl) (va_up_self _ _ _) (by omega) (by omega) rfl (by omega) (by decide) ?_
    refine hz_mem (pc := 90) (M2 := (va_up M (B + 4) (.inl (0, 64, .inl (upd (sh_ext u q) (16 + q) ((((((sh_ext u q) q) + ((sh_ext u q) (q + 9))) + (((sh_rot (y1) 7) ^^^ (sh_rot (y1) 18)) ^^^ (((y1).toUInt32 >>> ((nI (3)).toUInt32 &&& Int32.toUInt32 31)).toInt32))) + (((sh_rot (y2) 17) ^^^ (sh_rot (y2) 19)) ^^^ (((y2).toUInt32 >>> ((nI (10)).toUInt32 &&& Int32.toUInt32 31)).toInt32))))))))) (bx_uu _ _ _ _) ?_
    refine hz_incN (pc := 90) (i := 1) (lo2 := [(1, .int (nI (16 + q + 1))), (3, .int y2), (2, .int y1), (0, .ref B)]) 2 (hz_dec kX12_turnWords 60 rfl) rfl (by decide) rfl ?_
    refine hz_goto (pc := 93) (tgt := 3) (hz_dec kX12_turnWords 61 rfl) (by decide) ?_
    rw [show 16 + q + 1 = 16 + (q + 1) by omega]
    refine hz_pick (pc := 3) [0, 3] rfl ?_
    subst ey1 ey2
    exact ih (48 - (q + 1)) (by omega) (q + 1) rfl (by omega)
set_option maxHeartbeats 4000000 in
set_option maxRecDepth 100000 in
theorem l_twR {κ : hz_C} {z : Nat} {M : hz_M} {P : hz_P} {B : Nat} {fs : List Value} (hO : M B = .inr (12, fs)) (hF : md_F B fs) (h8 : 8 ≤ B) (hz : B + 88 ≤ z) {v u fa : Nat → Int32} (hst : M (B + 3) = .inl (0, 8, .inl v)) (hwo : M (B + 4) = .inl (0, 64, .inl u)) (had : M (B + 2) = .inl (0, 64, .inl fa)) (hfa : ∀ j, j < 64 → fa j = hz_sf 1 j) {w : Nat → Int32} (K : hz_W κ xX12_turnWords 1 0 0 P 0 0 298 [(1, .int ((sh_rd w (sh_of v) 64).1)), (2, .int ((sh_rd w (sh_of v) 64).2.1)), (3, .int ((sh_rd w (sh_of v) 64).2.2.1)), (4, .int ((sh_rd w (sh_of v) 64).2.2.2.1)), (5, .int ((sh_rd w (sh_of v) 64).2.2.2.2.1)), (6, .int ((sh_rd w (sh_of v) 64).2.2.2.2.2.1)), (7, .int ((sh_rd w (sh_of v) 64).2.2.2.2.2.2.1)), (8, .int ((sh_rd w (sh_of v) 64).2.2.2.2.2.2.2)), (0, .ref B)] [] z (va_up M (B + 4) (.inl (0, 64, .inl (w))))) : ∀ k q, k = 64 - q → q ≤ 64 → hz_W κ xX12_turnWords 1 0 0 P 0 0 162 [(9, .int (nI q)), (1, .int ((sh_rd w (sh_of v) q).1)), (2, .int ((sh_rd w (sh_of v) q).2.1)), (3, .int ((sh_rd w (sh_of v) q).2.2.1)), (4, .int ((sh_rd w (sh_of v) q).2.2.2.1)), (5, .int ((sh_rd w (sh_of v) q).2.2.2.2.1)), (6, .int ((sh_rd w (sh_of v) q).2.2.2.2.2.1)), (7, .int ((sh_rd w (sh_of v) q).2.2.2.2.2.2.1)), (8, .int ((sh_rd w (sh_of v) q).2.2.2.2.2.2.2)), (0, .ref B)] [] z (va_up M (B + 4) (.inl (0, 64, .inl (w)))) := by
  intro k
  induction k using Nat.strongRecOn with
  | ind k ih =>
  intro q hk hq
  refine hz_iload (pc := 162) 0 (hz_dec kX12_turnWords 104 rfl) rfl ?_
  refine hz_bipush (pc := 164) (v := nI 64) (hz_dec kX12_turnWords 105 rfl) (by decide) ?_
  refine hz_n_ge (pc := 166) (tgt := 298) (hz_dec kX12_turnWords 106 rfl) (by decide) (by omega) (by omega) (fun h1 => ?_) (fun h1 => ?_)
  · skip
    have e : q = 64 := by omega
    subst e
    refine hz_pick (pc := 298) [1, 2, 3, 4, 5, 6, 7, 8, 9] rfl ?_
    exact K
  · skip
    refine hz_iload (pc := 169) 8 (hz_dec kX12_turnWords 107 rfl) rfl ?_
    refine hz_iload (pc := 171) 5 (hz_dec kX12_turnWords 108 rfl) rfl ?_
    refine hz_bipush (pc := 173) (v := nI 6) (hz_dec kX12_turnWords 109 rfl) (by decide) ?_
    refine hz_xS (pc := 175) (As := [.int ((sh_rd w (sh_of v) q).2.2.2.2.1), .int (nI 6)]) (st := [.int ((sh_rd w (sh_of v) q).2.2.2.2.2.2.2)]) (hz_dec kX12_turnWords 110 rfl) co_X12_319 sc_X12_right (c_right (by decide)) rfl (by decide) ⟨Nat.le_refl _, Nat.le_refl _⟩ (Nat.le_of_ble_eq_true rfl) rfl ?_
    refine hz_iload (pc := 178) 5 (hz_dec kX12_turnWords 111 rfl) rfl ?_
    refine hz_bipush (pc := 180) (v := nI 11) (hz_dec kX12_turnWords 112 rfl) (by decide) ?_
    refine hz_xS (pc := 182) (As := [.int ((sh_rd w (sh_of v) q).2.2.2.2.1), .int (nI 11)]) (st := [.int (sh_rot ((sh_rd w (sh_of v) q).2.2.2.2.1) 6), .int ((sh_rd w (sh_of v) q).2.2.2.2.2.2.2)]) (hz_dec kX12_turnWords 113 rfl) co_X12_319 sc_X12_right (c_right (by decide)) rfl (by decide) ⟨Nat.le_refl _, Nat.le_refl _⟩ (Nat.le_of_ble_eq_true rfl) rfl ?_
    refine hz_ixor (pc := 185) (hz_dec kX12_turnWords 114 rfl) ?_
    refine hz_iload (pc := 186) 5 (hz_dec kX12_turnWords 115 rfl) rfl ?_
    refine hz_bipush (pc := 188) (v := nI 25) (hz_dec kX12_turnWords 116 rfl) (by decide) ?_
    refine hz_xS (pc := 190) (As := [.int ((sh_rd w (sh_of v) q).2.2.2.2.1), .int (nI 25)]) (st := [.int ((sh_rot ((sh_rd w (sh_of v) q).2.2.2.2.1) 6) ^^^ (sh_rot ((sh_rd w (sh_of v) q).2.2.2.2.1) 11)), .int ((sh_rd w (sh_of v) q).2.2.2.2.2.2.2)]) (hz_dec kX12_turnWords 117 rfl) co_X12_319 sc_X12_right (c_right (by decide)) rfl (by decide) ⟨Nat.le_refl _, Nat.le_refl _⟩ (Nat.le_of_ble_eq_true rfl) rfl ?_
    refine hz_ixor (pc := 193) (hz_dec kX12_turnWords 118 rfl) ?_
    refine hz_iadd (pc := 194) (hz_dec kX12_turnWords 119 rfl) ?_
    refine hz_iload (pc := 195) 5 (hz_dec kX12_turnWords 120 rfl) rfl ?_
    refine hz_iload (pc := 197) 6 (hz_dec kX12_turnWords 121 rfl) rfl ?_
    refine hz_iand (pc := 199) (hz_dec kX12_turnWords 122 rfl) ?_
    refine hz_iload (pc := 200) 5 (hz_dec kX12_turnWords 123 rfl) rfl ?_
    refine hz_iconst (pc := 202) (v := (-1)) (hz_dec kX12_turnWords 124 rfl) (by decide) ?_
    refine hz_ixor (pc := 203) (hz_dec kX12_turnWords 125 rfl) ?_
    refine hz_iload (pc := 204) 7 (hz_dec kX12_turnWords 126 rfl) rfl ?_
    refine hz_iand (pc := 206) (hz_dec kX12_turnWords 127 rfl) ?_
    refine hz_ixor (pc := 207) (hz_dec kX12_turnWords 128 rfl) ?_
    refine hz_iadd (pc := 208) (hz_dec kX12_turnWords 129 rfl) ?_
    refine hz_aloadn (pc := 209) 9 (hz_dec kX12_turnWords 130 rfl) rfl ?_
    refine hz_get (pc := 210) (v := .ref (B + 2)) (hz_dec kX12_turnWords 131 rfl) fo_X12_13 (hz_mne hO (by omega)) h8 (by omega) (hF.2 3 (by decide) (by decide)) ?_
    refine hz_iload (pc := 213) 0 (hz_dec kX12_turnWords 132 rfl) rfl ?_
    refine hz_iald (pc := 215) (j := q) (hz_dec kX12_turnWords 133 rfl) (hz_mne had (by omega)) (by omega) (by omega) rfl (by omega) (by decide) ?_
    refine hz_eqi (pc := 216) (hfa q h1) ?_
    refine hz_iadd (pc := 216) (hz_dec kX12_turnWords 134 rfl) ?_
    refine hz_aloadn (pc := 217) 9 (hz_dec kX12_turnWords 135 rfl) rfl ?_
    refine hz_get (pc := 218) (v := .ref (B + 4)) (hz_dec kX12_turnWords 136 rfl) fo_X12_19 (hz_mne hO (by omega)) h8 (by omega) (hF.2 5 (by decide) (by decide)) ?_
    refine hz_iload (pc := 221) 0 (hz_dec kX12_turnWords 137 rfl) rfl ?_
    refine hz_iald (pc := 223) (j := q) (hz_dec kX12_turnWords 138 rfl) (va_up_self _ _ _) (by omega) (by omega) rfl (by omega) (by decide) ?_
    refine hz_iadd (pc := 224) (hz_dec kX12_turnWords 139 rfl) ?_
    refine hz_topi (pc := 225) (fun y1 ey1 => ?_)
    refine hz_istore (pc := 225) (i := 10) (lo2 := [(10, .int y1), (9, .int (nI q)), (1, .int ((sh_rd w (sh_of v) q).1)), (2, .int ((sh_rd w (sh_of v) q).2.1)), (3, .int ((sh_rd w (sh_of v) q).2.2.1)), (4, .int ((sh_rd w (sh_of v) q).2.2.2.1)), (5, .int ((sh_rd w (sh_of v) q).2.2.2.2.1)), (6, .int ((sh_rd w (sh_of v) q).2.2.2.2.2.1)), (7, .int ((sh_rd w (sh_of v) q).2.2.2.2.2.2.1)), (8, .int ((sh_rd w (sh_of v) q).2.2.2.2.2.2.2)), (0, .ref B)]) (hz_dec kX12_turnWords 140 rfl) (by decide) rfl ?_
    refine hz_iloadn (pc := 227) 2 (hz_dec kX12_turnWords 141 rfl) rfl ?_
    refine hz_iconst (pc := 228) (v := nI 2) (hz_dec kX12_turnWords 142 rfl) (by decide) ?_
    refine hz_xS (pc := 229) (As := [.int ((sh_rd w (sh_of v) q).1), .int (nI 2)]) (st := []) (hz_dec kX12_turnWords 143 rfl) co_X12_319 sc_X12_right (c_right (by decide)) rfl (by decide) ⟨Nat.le_refl _, Nat.le_refl _⟩ (Nat.le_of_ble_eq_true rfl) rfl ?_
    refine hz_iloadn (pc := 232) 2 (hz_dec kX12_turnWords 144 rfl) rfl ?_
    refine hz_bipush (pc := 233) (v := nI 13) (hz_dec kX12_turnWords 145 rfl) (by decide) ?_
    refine hz_xS (pc := 235) (As := [.int ((sh_rd w (sh_of v) q).1), .int (nI 13)]) (st := [.int (sh_rot ((sh_rd w (sh_of v) q).1) 2)]) (hz_dec kX12_turnWords 146 rfl) co_X12_319 sc_X12_right (c_right (by decide)) rfl (by decide) ⟨Nat.le_refl _, Nat.le_refl _⟩ (Nat.le_of_ble_eq_true rfl) rfl ?_
    refine hz_ixor (pc := 238) (hz_dec kX12_turnWords 147 rfl) ?_
    refine hz_iloadn (pc := 239) 2 (hz_dec kX12_turnWords 148 rfl) rfl ?_
    refine hz_bipush (pc := 240) (v := nI 22) (hz_dec kX12_turnWords 149 rfl) (by decide) ?_
    refine hz_xS (pc := 242) (As := [.int ((sh_rd w (sh_of v) q).1), .int (nI 22)]) (st := [.int ((sh_rot ((sh_rd w (sh_of v) q).1) 2) ^^^ (sh_rot ((sh_rd w (sh_of v) q).1) 13))]) (hz_dec kX12_turnWords 150 rfl) co_X12_319 sc_X12_right (c_right (by decide)) rfl (by decide) ⟨Nat.le_refl _, Nat.le_refl _⟩ (Nat.le_of_ble_eq_true rfl) rfl ?_
    refine hz_ixor (pc := 245) (hz_dec kX12_turnWords 151 rfl) ?_
    refine hz_iloadn (pc := 246) 2 (hz_dec kX12_turnWords 152 rfl) rfl ?_
    refine hz_iloadn (pc := 247) 3 (hz_dec kX12_turnWords 153 rfl) rfl ?_
    refine hz_iand (pc := 248) (hz_dec kX12_turnWords 154 rfl) ?_
    refine hz_iloadn (pc := 249) 2 (hz_dec kX12_turnWords 155 rfl) rfl ?_
    refine hz_iloadn (pc := 250) 4 (hz_dec kX12_turnWords 156 rfl) rfl ?_
    refine hz_iand (pc := 251) (hz_dec kX12_turnWords 157 rfl) ?_
    refine hz_ixor (pc := 252) (hz_dec kX12_turnWords 158 rfl) ?_
    refine hz_iloadn (pc := 253) 3 (hz_dec kX12_turnWords 159 rfl) rfl ?_
    refine hz_iloadn (pc := 254) 4 (hz_dec kX12_turnWords 160 rfl) rfl ?_
    refine hz_iand (pc := 255) (hz_dec kX12_turnWords 161 rfl) ?_
    refine hz_ixor (pc := 256) (hz_dec kX12_turnWords 162 rfl) ?_
    refine hz_iadd (pc := 257) (hz_dec kX12_turnWords 163 rfl) ?_
    refine hz_topi (pc := 258) (fun y2 ey2 => ?_)
    refine hz_istore (pc := 258) (i := 11) (lo2 := [(11, .int y2), (10, .int y1), (9, .int (nI q)), (1, .int ((sh_rd w (sh_of v) q).1)), (2, .int ((sh_rd w (sh_of v) q).2.1)), (3, .int ((sh_rd w (sh_of v) q).2.2.1)), (4, .int ((sh_rd w (sh_of v) q).2.2.2.1)), (5, .int ((sh_rd w (sh_of v) q).2.2.2.2.1)), (6, .int ((sh_rd w (sh_of v) q).2.2.2.2.2.1)), (7, .int ((sh_rd w (sh_of v) q).2.2.2.2.2.2.1)), (8, .int ((sh_rd w (sh_of v) q).2.2.2.2.2.2.2)), (0, .ref B)]) (hz_dec kX12_turnWords 164 rfl) (by decide) rfl ?_
    refine hz_iload (pc := 260) 9 (hz_dec kX12_turnWords 165 rfl) rfl ?_
    refine hz_istore (pc := 262) (i := 8) (lo2 := [(8, .int ((sh_rd w (sh_of v) q).2.2.2.2.2.2.1)), (11, .int y2), (10, .int y1), (9, .int (nI q)), (1, .int ((sh_rd w (sh_of v) q).1)), (2, .int ((sh_rd w (sh_of v) q).2.1)), (3, .int ((sh_rd w (sh_of v) q).2.2.1)), (4, .int ((sh_rd w (sh_of v) q).2.2.2.1)), (5, .int ((sh_rd w (sh_of v) q).2.2.2.2.1)), (6, .int ((sh_rd w (sh_of v) q).2.2.2.2.2.1)), (7, .int ((sh_rd w (sh_of v) q).2.2.2.2.2.2.1)), (0, .ref B)]) (hz_dec kX12_turnWords 166 rfl) (by decide) rfl ?_
    refine hz_iload (pc := 264) 9 (hz_dec kX12_turnWords 167 rfl) rfl ?_
    refine hz_istore (pc := 266) (i := 7) (lo2 := [(7, .int ((sh_rd w (sh_of v) q).2.2.2.2.2.1)), (8, .int ((sh_rd w (sh_of v) q).2.2.2.2.2.2.1)), (11, .int y2), (10, .int y1), (9, .int (nI q)), (1, .int ((sh_rd w (sh_of v) q).1)), (2, .int ((sh_rd w (sh_of v) q).2.1)), (3, .int ((sh_rd w (sh_of v) q).2.2.1)), (4, .int ((sh_rd w (sh_of v) q).2.2.2.1)), (5, .int ((sh_rd w (sh_of v) q).2.2.2.2.1)), (6, .int ((sh_rd w (sh_of v) q).2.2.2.2.2.1)), (0, .ref B)]) (hz_dec kX12_turnWords 168 rfl) (by decide) rfl ?_
    refine hz_iload (pc := 268) 9 (hz_dec kX12_turnWords 169 rfl) rfl ?_
    refine hz_istore (pc := 270) (i := 6) (lo2 := [(6, .int ((sh_rd w (sh_of v) q).2.2.2.2.1)), (7, .int ((sh_rd w (sh_of v) q).2.2.2.2.2.1)), (8, .int ((sh_rd w (sh_of v) q).2.2.2.2.2.2.1)), (11, .int y2), (10, .int y1), (9, .int (nI q)), (1, .int ((sh_rd w (sh_of v) q).1)), (2, .int ((sh_rd w (sh_of v) q).2.1)), (3, .int ((sh_rd w (sh_of v) q).2.2.1)), (4, .int ((sh_rd w (sh_of v) q).2.2.2.1)), (5, .int ((sh_rd w (sh_of v) q).2.2.2.2.1)), (0, .ref B)]) (hz_dec kX12_turnWords 170 rfl) (by decide) rfl ?_
    refine hz_iload (pc := 272) 9 (hz_dec kX12_turnWords 171 rfl) rfl ?_
    refine hz_iload (pc := 274) 4 (hz_dec kX12_turnWords 172 rfl) rfl ?_
    refine hz_iadd (pc := 276) (hz_dec kX12_turnWords 173 rfl) ?_
    refine hz_istore (pc := 277) (i := 5) (lo2 := [(5, .int (((sh_rd w (sh_of v) q).2.2.2.1) + (y1))), (6, .int ((sh_rd w (sh_of v) q).2.2.2.2.1)), (7, .int ((sh_rd w (sh_of v) q).2.2.2.2.2.1)), (8, .int ((sh_rd w (sh_of v) q).2.2.2.2.2.2.1)), (11, .int y2), (10, .int y1), (9, .int (nI q)), (1, .int ((sh_rd w (sh_of v) q).1)), (2, .int ((sh_rd w (sh_of v) q).2.1)), (3, .int ((sh_rd w (sh_of v) q).2.2.1)), (4, .int ((sh_rd w (sh_of v) q).2.2.2.1)), (0, .ref B)]) (hz_dec kX12_turnWords 174 rfl) (by decide) rfl ?_
    refine hz_iloadn (pc := 279) 9 (hz_dec kX12_turnWords 175 rfl) rfl ?_
    refine hz_istore (pc := 280) (i := 4) (lo2 := [(4, .int ((sh_rd w (sh_of v) q).2.2.1)), (5, .int (((sh_rd w (sh_of v) q).2.2.2.1) + (y1))), (6, .int ((sh_rd w (sh_of v) q).2.2.2.2.1)), (7, .int ((sh_rd w (sh_of v) q).2.2.2.2.2.1)), (8, .int ((sh_rd w (sh_of v) q).2.2.2.2.2.2.1)), (11, .int y2), (10, .int y1), (9, .int (nI q)), (1, .int ((sh_rd w (sh_of v) q).1)), (2, .int ((sh_rd w (sh_of v) q).2.1)), (3, .int ((sh_rd w (sh_of v) q).2.2.1)), (0, .ref B)]) (hz_dec kX12_turnWords 176 rfl) (by decide) rfl ?_
    refine hz_iloadn (pc := 282) 9 (hz_dec kX12_turnWords 177 rfl) rfl ?_
    refine hz_istoren (pc := 283) (i := 3) (lo2 := [(3, .int ((sh_rd w (sh_of v) q).2.1)), (4, .int ((sh_rd w (sh_of v) q).2.2.1)), (5, .int (((sh_rd w (sh_of v) q).2.2.2.1) + (y1))), (6, .int ((sh_rd w (sh_of v) q).2.2.2.2.1)), (7, .int ((sh_rd w (sh_of v) q).2.2.2.2.2.1)), (8, .int ((sh_rd w (sh_of v) q).2.2.2.2.2.2.1)), (11, .int y2), (10, .int y1), (9, .int (nI q)), (1, .int ((sh_rd w (sh_of v) q).1)), (2, .int ((sh_rd w (sh_of v) q).2.1)), (0, .ref B)]) (hz_dec kX12_turnWords 178 rfl) rfl (by decide) rfl ?_
    refine hz_iloadn (pc := 284) 9 (hz_dec kX12_turnWords 179 rfl) rfl ?_
    refine hz_istoren (pc := 285) (i := 2) (lo2 := [(2, .int ((sh_rd w (sh_of v) q).1)), (3, .int ((sh_rd w (sh_of v) q).2.1)), (4, .int ((sh_rd w (sh_of v) q).2.2.1)), (5, .int (((sh_rd w (sh_of v) q).2.2.2.1) + (y1))), (6, .int ((sh_rd w (sh_of v) q).2.2.2.2.1)), (7, .int ((sh_rd w (sh_of v) q).2.2.2.2.2.1)), (8, .int ((sh_rd w (sh_of v) q).2.2.2.2.2.2.1)), (11, .int y2), (10, .int y1), (9, .int (nI q)), (1, .int ((sh_rd w (sh_of v) q).1)), (0, .ref B)]) (hz_dec kX12_turnWords 180 rfl) rfl (by decide) rfl ?_
    refine hz_iload (pc := 286) 8 (hz_dec kX12_turnWords 181 rfl) rfl ?_
    refine hz_iload (pc := 288) 7 (hz_dec kX12_turnWords 182 rfl) rfl ?_
    refine hz_iadd (pc := 290) (hz_dec kX12_turnWords 183 rfl) ?_
    refine hz_istoren (pc := 291) (i := 1) (lo2 := [(1, .int ((y1) + (y2))), (2, .int ((sh_rd w (sh_of v) q).1)), (3, .int ((sh_rd w (sh_of v) q).2.1)), (4, .int ((sh_rd w (sh_of v) q).2.2.1)), (5, .int (((sh_rd w (sh_of v) q).2.2.2.1) + (y1))), (6, .int ((sh_rd w (sh_of v) q).2.2.2.2.1)), (7, .int ((sh_rd w (sh_of v) q).2.2.2.2.2.1)), (8, .int ((sh_rd w (sh_of v) q).2.2.2.2.2.2.1)), (11, .int y2), (10, .int y1), (9, .int (nI q)), (0, .ref B)]) (hz_dec kX12_turnWords 184 rfl) rfl (by decide) rfl ?_
    refine hz_incN (pc := 292) (i := 9) (lo2 := [(9, .int (nI (q + 1))), (1, .int ((y1) + (y2))), (2, .int ((sh_rd w (sh_of v) q).1)), (3, .int ((sh_rd w (sh_of v) q).2.1)), (4, .int ((sh_rd w (sh_of v) q).2.2.1)), (5, .int (((sh_rd w (sh_of v) q).2.2.2.1) + (y1))), (6, .int ((sh_rd w (sh_of v) q).2.2.2.2.1)), (7, .int ((sh_rd w (sh_of v) q).2.2.2.2.2.1)), (8, .int ((sh_rd w (sh_of v) q).2.2.2.2.2.2.1)), (11, .int y2), (10, .int y1), (0, .ref B)]) 10 (hz_dec kX12_turnWords 185 rfl) rfl (by decide) rfl ?_
    refine hz_goto (pc := 295) (tgt := 162) (hz_dec kX12_turnWords 186 rfl) (by decide) ?_
    refine hz_pick (pc := 162) [0, 1, 2, 3, 4, 5, 6, 7, 8, 11] rfl ?_
    subst ey1 ey2
    exact ih (64 - (q + 1)) (by omega) (q + 1) rfl (by omega)
def md_tP (M : hz_M) (z B : Nat) (v u : Nat → Int32) : hz_P := fun r z2 M2 => none = r ∧ z = z2 ∧ ∃ v2 u2 : Nat → Int32, (∀ j, j < 8 → v2 j = sh_blk v u j) ∧ (va_up (va_up M (B + 3) (.inl (0, 8, .inl v2))) (B + 4) (.inl (0, 64, .inl u2))) = M2
set_option maxHeartbeats 4000000 in
set_option maxRecDepth 100000 in
theorem c_turnWords {κ : hz_C} {z : Nat} {M : hz_M} {B : Nat} {fs : List Value} (hO : M B = .inr (12, fs)) (hF : md_F B fs) (h8 : 8 ≤ B) (hz : B + 88 ≤ z) {v u fa : Nat → Int32} (hst : M (B + 3) = .inl (0, 8, .inl v)) (hwo : M (B + 4) = .inl (0, 64, .inl u)) (had : M (B + 2) = .inl (0, 64, .inl fa)) (hfa : ∀ j, j < 64 → fa j = hz_sf 1 j) : hz_Mt κ xX12_turnWords 1 0 0 [.ref B] z M (md_tP M z B v u) := by
  refine hz_ent (lo := [(0, .ref B)]) (by decide) (Nat.le_of_ble_eq_true rfl) rfl ?_
  refine hz_bipush (pc := 0) (v := nI 16) (hz_dec kX12_turnWords 0 rfl) (by decide) ?_
  refine hz_istoren (pc := 2) (i := 1) (lo2 := [(1, .int (nI 16)), (0, .ref B)]) (hz_dec kX12_turnWords 1 rfl) rfl (by decide) rfl ?_
  refine hz_pick (pc := 3) [0, 1] rfl ?_
  refine hz_mem (hz_upid hwo).symm ?_
  refine l_twS hO hF h8 hz hst hwo had hfa ?_ 48 0 rfl (by omega)
  refine hz_aloadn (pc := 96) 0 (hz_dec kX12_turnWords 62 rfl) rfl ?_
  refine hz_get (pc := 97) (v := .ref (B + 3)) (hz_dec kX12_turnWords 63 rfl) fo_X12_16 (hz_mne hO (by omega)) h8 (by omega) (hF.2 4 (by decide) (by decide)) ?_
  refine hz_iconst (pc := 100) (v := nI 0) (hz_dec kX12_turnWords 64 rfl) (by decide) ?_
  refine hz_iald (pc := 101) (j := 0) (hz_dec kX12_turnWords 65 rfl) (hz_mne hst (by omega)) (by omega) (by omega) rfl (by omega) (by decide) ?_
  refine hz_istoren (pc := 102) (i := 1) (lo2 := [(1, .int (v 0)), (0, .ref B)]) (hz_dec kX12_turnWords 66 rfl) rfl (by decide) rfl ?_
  refine hz_aloadn (pc := 103) 1 (hz_dec kX12_turnWords 67 rfl) rfl ?_
  refine hz_get (pc := 104) (v := .ref (B + 3)) (hz_dec kX12_turnWords 68 rfl) fo_X12_16 (hz_mne hO (by omega)) h8 (by omega) (hF.2 4 (by decide) (by decide)) ?_
  refine hz_iconst (pc := 107) (v := nI 1) (hz_dec kX12_turnWords 69 rfl) (by decide) ?_
  refine hz_iald (pc := 108) (j := 1) (hz_dec kX12_turnWords 70 rfl) (hz_mne hst (by omega)) (by omega) (by omega) rfl (by omega) (by decide) ?_
  refine hz_istoren (pc := 109) (i := 2) (lo2 := [(2, .int (v 1)), (1, .int (v 0)), (0, .ref B)]) (hz_dec kX12_turnWords 71 rfl) rfl (by decide) rfl ?_
  refine hz_aloadn (pc := 110) 2 (hz_dec kX12_turnWords 72 rfl) rfl ?_
  refine hz_get (pc := 111) (v := .ref (B + 3)) (hz_dec kX12_turnWords 73 rfl) fo_X12_16 (hz_mne hO (by omega)) h8 (by omega) (hF.2 4 (by decide) (by decide)) ?_
  refine hz_iconst (pc := 114) (v := nI 2) (hz_dec kX12_turnWords 74 rfl) (by decide) ?_
  refine hz_iald (pc := 115) (j := 2) (hz_dec kX12_turnWords 75 rfl) (hz_mne hst (by omega)) (by omega) (by omega) rfl (by omega) (by decide) ?_
  refine hz_istoren (pc := 116) (i := 3) (lo2 := [(3, .int (v 2)), (2, .int (v 1)), (1, .int (v 0)), (0, .ref B)]) (hz_dec kX12_turnWords 76 rfl) rfl (by decide) rfl ?_
  refine hz_aloadn (pc := 117) 3 (hz_dec kX12_turnWords 77 rfl) rfl ?_
  refine hz_get (pc := 118) (v := .ref (B + 3)) (hz_dec kX12_turnWords 78 rfl) fo_X12_16 (hz_mne hO (by omega)) h8 (by omega) (hF.2 4 (by decide) (by decide)) ?_
  refine hz_iconst (pc := 121) (v := nI 3) (hz_dec kX12_turnWords 79 rfl) (by decide) ?_
  refine hz_iald (pc := 122) (j := 3) (hz_dec kX12_turnWords 80 rfl) (hz_mne hst (by omega)) (by omega) (by omega) rfl (by omega) (by decide) ?_
  refine hz_istore (pc := 123) (i := 4) (lo2 := [(4, .int (v 3)), (3, .int (v 2)), (2, .int (v 1)), (1, .int (v 0)), (0, .ref B)]) (hz_dec kX12_turnWords 81 rfl) (by decide) rfl ?_
  refine hz_aloadn (pc := 125) 4 (hz_dec kX12_turnWords 82 rfl) rfl ?_
  refine hz_get (pc := 126) (v := .ref (B + 3)) (hz_dec kX12_turnWords 83 rfl) fo_X12_16 (hz_mne hO (by omega)) h8 (by omega) (hF.2 4 (by decide) (by decide)) ?_
  refine hz_iconst (pc := 129) (v := nI 4) (hz_dec kX12_turnWords 84 rfl) (by decide) ?_
  refine hz_iald (pc := 130) (j := 4) (hz_dec kX12_turnWords 85 rfl) (hz_mne hst (by omega)) (by omega) (by omega) rfl (by omega) (by decide) ?_
  refine hz_istore (pc := 131) (i := 5) (lo2 := [(5, .int (v 4)), (4, .int (v 3)), (3, .int (v 2)), (2, .int (v 1)), (1, .int (v 0)), (0, .ref B)]) (hz_dec kX12_turnWords 86 rfl) (by decide) rfl ?_
  refine hz_aloadn (pc := 133) 5 (hz_dec kX12_turnWords 87 rfl) rfl ?_
  refine hz_get (pc := 134) (v := .ref (B + 3)) (hz_dec kX12_turnWords 88 rfl) fo_X12_16 (hz_mne hO (by omega)) h8 (by omega) (hF.2 4 (by decide) (by decide)) ?_
  refine hz_iconst (pc := 137) (v := nI 5) (hz_dec kX12_turnWords 89 rfl) (by decide) ?_
  refine hz_iald (pc := 138) (j := 5) (hz_dec kX12_turnWords 90 rfl) (hz_mne hst (by omega)) (by omega) (by omega) rfl (by omega) (by decide) ?_
  refine hz_istore (pc := 139) (i := 6) (lo2 := [(6, .int (v 5)), (5, .int (v 4)), (4, .int (v 3)), (3, .int (v 2)), (2, .int (v 1)), (1, .int (v 0)), (0, .ref B)]) (hz_dec kX12_turnWords 91 rfl) (by decide) rfl ?_
  refine hz_aloadn (pc := 141) 6 (hz_dec kX12_turnWords 92 rfl) rfl ?_
  refine hz_get (pc := 142) (v := .ref (B + 3)) (hz_dec kX12_turnWords 93 rfl) fo_X12_16 (hz_mne hO (by omega)) h8 (by omega) (hF.2 4 (by decide) (by decide)) ?_
  refine hz_bipush (pc := 145) (v := nI 6) (hz_dec kX12_turnWords 94 rfl) (by decide) ?_
  refine hz_iald (pc := 147) (j := 6) (hz_dec kX12_turnWords 95 rfl) (hz_mne hst (by omega)) (by omega) (by omega) rfl (by omega) (by decide) ?_
  refine hz_istore (pc := 148) (i := 7) (lo2 := [(7, .int (v 6)), (6, .int (v 5)), (5, .int (v 4)), (4, .int (v 3)), (3, .int (v 2)), (2, .int (v 1)), (1, .int (v 0)), (0, .ref B)]) (hz_dec kX12_turnWords 96 rfl) (by decide) rfl ?_
  refine hz_aloadn (pc := 150) 7 (hz_dec kX12_turnWords 97 rfl) rfl ?_
  refine hz_get (pc := 151) (v := .ref (B + 3)) (hz_dec kX12_turnWords 98 rfl) fo_X12_16 (hz_mne hO (by omega)) h8 (by omega) (hF.2 4 (by decide) (by decide)) ?_
  refine hz_bipush (pc := 154) (v := nI 7) (hz_dec kX12_turnWords 99 rfl) (by decide) ?_
  refine hz_iald (pc := 156) (j := 7) (hz_dec kX12_turnWords 100 rfl) (hz_mne hst (by omega)) (by omega) (by omega) rfl (by omega) (by decide) ?_
  refine hz_istore (pc := 157) (i := 8) (lo2 := [(8, .int (v 7)), (7, .int (v 6)), (6, .int (v 5)), (5, .int (v 4)), (4, .int (v 3)), (3, .int (v 2)), (2, .int (v 1)), (1, .int (v 0)), (0, .ref B)]) (hz_dec kX12_turnWords 101 rfl) (by decide) rfl ?_
  refine hz_iconst (pc := 159) (v := nI 0) (hz_dec kX12_turnWords 102 rfl) (by decide) ?_
  refine hz_istore (pc := 160) (i := 9) (lo2 := [(9, .int (nI 0)), (8, .int (v 7)), (7, .int (v 6)), (6, .int (v 5)), (5, .int (v 4)), (4, .int (v 3)), (3, .int (v 2)), (2, .int (v 1)), (1, .int (v 0)), (0, .ref B)]) (hz_dec kX12_turnWords 103 rfl) (by decide) rfl ?_
  refine hz_pick (pc := 162) [0, 8, 7, 6, 5, 4, 3, 2, 1, 9] rfl ?_
  refine l_twR hO hF h8 hz hst hwo had hfa (w := sh_ext u 48) ?_ 64 0 rfl (by omega)
  generalize hs : sh_rd (sh_ext u 48) (sh_of v) 64 = s8
  refine hz_aloadn (pc := 298) 8 (hz_dec kX12_turnWords 187 rfl) rfl ?_
  refine hz_get (pc := 299) (v := .ref (B + 3)) (hz_dec kX12_turnWords 188 rfl) fo_X12_16 (hz_mne hO (by omega)) h8 (by omega) (hF.2 4 (by decide) (by decide)) ?_
  refine hz_iconst (pc := 302) (v := nI 0) (hz_dec kX12_turnWords 189 rfl) (by decide) ?_
  refine hz_dup2 (pc := 303) (hz_dec kX12_turnWords 190 rfl) rfl rfl ?_
  refine hz_iald (pc := 304) (j := 0) (hz_dec kX12_turnWords 191 rfl) (hz_mne hst (by omega)) (by omega) (by omega) rfl (by omega) (by decide) ?_
  refine hz_iloadn (pc := 305) 0 (hz_dec kX12_turnWords 192 rfl) rfl ?_
  refine hz_iadd (pc := 306) (hz_dec kX12_turnWords 193 rfl) ?_
  refine hz_iast (pc := 307) (j := 0) (hz_dec kX12_turnWords 194 rfl) (hz_mne hst (by omega)) (by omega) (by omega) rfl (by omega) (by decide) ?_
  refine hz_aloadn (pc := 308) 8 (hz_dec kX12_turnWords 195 rfl) rfl ?_
  refine hz_get (pc := 309) (v := .ref (B + 3)) (hz_dec kX12_turnWords 196 rfl) fo_X12_16 (hz_mne (hz_mne hO (by omega)) (by omega)) h8 (by omega) (hF.2 4 (by decide) (by decide)) ?_
  refine hz_iconst (pc := 312) (v := nI 1) (hz_dec kX12_turnWords 197 rfl) (by decide) ?_
  refine hz_dup2 (pc := 313) (hz_dec kX12_turnWords 198 rfl) rfl rfl ?_
  refine hz_iald (pc := 314) (j := 1) (hz_dec kX12_turnWords 199 rfl) (va_up_self _ _ _) (by omega) (by omega) rfl (by omega) (by decide) ?_
  refine hz_iloadn (pc := 315) 1 (hz_dec kX12_turnWords 200 rfl) rfl ?_
  refine hz_iadd (pc := 316) (hz_dec kX12_turnWords 201 rfl) ?_
  refine hz_iast (pc := 317) (j := 1) (hz_dec kX12_turnWords 202 rfl) (va_up_self _ _ _) (by omega) (by omega) rfl (by omega) (by decide) ?_
  refine hz_mem (pc := 318) (M2 := (va_up (va_up M (B + 4) (.inl (0, 64, .inl (sh_ext u 48)))) (B + 3) (.inl (0, 8, .inl (upd (upd v 0 (((v 0) + (s8.1)))) 1 ((((upd v 0 (((v 0) + (s8.1)))) 1) + (s8.2.1)))))))) (bx_uu _ _ _ _) ?_
  refine hz_aloadn (pc := 318) 8 (hz_dec kX12_turnWords 203 rfl) rfl ?_
  refine hz_get (pc := 319) (v := .ref (B + 3)) (hz_dec kX12_turnWords 204 rfl) fo_X12_16 (hz_mne (hz_mne hO (by omega)) (by omega)) h8 (by omega) (hF.2 4 (by decide) (by decide)) ?_
  refine hz_iconst (pc := 322) (v := nI 2) (hz_dec kX12_turnWords 205 rfl) (by decide) ?_
  refine hz_dup2 (pc := 323) (hz_dec kX12_turnWords 206 rfl) rfl rfl ?_
  refine hz_iald (pc := 324) (j := 2) (hz_dec kX12_turnWords 207 rfl) (va_up_self _ _ _) (by omega) (by omega) rfl (by omega) (by decide) ?_
  refine hz_iloadn (pc := 325) 2 (hz_dec kX12_turnWords 208 rfl) rfl ?_
  refine hz_iadd (pc := 326) (hz_dec kX12_turnWords 209 rfl) ?_
  refine hz_iast (pc := 327) (j := 2) (hz_dec kX12_turnWords 210 rfl) (va_up_self _ _ _) (by omega) (by omega) rfl (by omega) (by decide) ?_
  refine hz_mem (pc := 328) (M2 := (va_up (va_up M (B + 4) (.inl (0, 64, .inl (sh_ext u 48)))) (B + 3) (.inl (0, 8, .inl (upd (upd (upd v 0 (((v 0) + (s8.1)))) 1 ((((upd v 0 (((v 0) + (s8.1)))) 1) + (s8.2.1)))) 2 ((((upd (upd v 0 (((v 0) + (s8.1)))) 1 ((((upd v 0 (((v 0) + (s8.1)))) 1) + (s8.2.1)))) 2) + (s8.2.2.1)))))))) (bx_uu _ _ _ _) ?_
  refine hz_aloadn (pc := 328) 8 (hz_dec kX12_turnWords 211 rfl) rfl ?_
  refine hz_get (pc := 329) (v := .ref (B + 3)) (hz_dec kX12_turnWords 212 rfl) fo_X12_16 (hz_mne (hz_mne hO (by omega)) (by omega)) h8 (by omega) (hF.2 4 (by decide) (by decide)) ?_
  refine hz_iconst (pc := 332) (v := nI 3) (hz_dec kX12_turnWords 213 rfl) (by decide) ?_
  refine hz_dup2 (pc := 333) (hz_dec kX12_turnWords 214 rfl) rfl rfl ?_
  refine hz_iald (pc := 334) (j := 3) (hz_dec kX12_turnWords 215 rfl) (va_up_self _ _ _) (by omega) (by omega) rfl (by omega) (by decide) ?_
  refine hz_iload (pc := 335) 3 (hz_dec kX12_turnWords 216 rfl) rfl ?_
  refine hz_iadd (pc := 337) (hz_dec kX12_turnWords 217 rfl) ?_
  refine hz_iast (pc := 338) (j := 3) (hz_dec kX12_turnWords 218 rfl) (va_up_self _ _ _) (by omega) (by omega) rfl (by omega) (by decide) ?_
  refine hz_mem (pc := 339) (M2 := (va_up (va_up M (B + 4) (.inl (0, 64, .inl (sh_ext u 48)))) (B + 3) (.inl (0, 8, .inl (upd (upd (upd (upd v 0 (((v 0) + (s8.1)))) 1 ((((upd v 0 (((v 0) + (s8.1)))) 1) + (s8.2.1)))) 2 ((((upd (upd v 0 (((v 0) + (s8.1)))) 1 ((((upd v 0 (((v 0) + (s8.1)))) 1) + (s8.2.1)))) 2) + (s8.2.2.1)))) 3 ((((upd (upd (upd v 0 (((v 0) + (s8.1)))) 1 ((((upd v 0 (((v 0) + (s8.1)))) 1) + (s8.2.1)))) 2 ((((upd (upd v 0 (((v 0) + (s8.1)))) 1 ((((upd v 0 (((v 0) + (s8.1)))) 1) + (s8.2.1)))) 2) + (s8.2.2.1)))) 3) + (s8.2.2.2.1)))))))) (bx_uu _ _ _ _) ?_
  refine hz_aloadn (pc := 339) 8 (hz_dec kX12_turnWords 219 rfl) rfl ?_
  refine hz_get (pc := 340) (v := .ref (B + 3)) (hz_dec kX12_turnWords 220 rfl) fo_X12_16 (hz_mne (hz_mne hO (by omega)) (by omega)) h8 (by omega) (hF.2 4 (by decide) (by decide)) ?_
  refine hz_iconst (pc := 343) (v := nI 4) (hz_dec kX12_turnWords 221 rfl) (by decide) ?_
  refine hz_dup2 (pc := 344) (hz_dec kX12_turnWords 222 rfl) rfl rfl ?_
  refine hz_iald (pc := 345) (j := 4) (hz_dec kX12_turnWords 223 rfl) (va_up_self _ _ _) (by omega) (by omega) rfl (by omega) (by decide) ?_
  refine hz_iload (pc := 346) 4 (hz_dec kX12_turnWords 224 rfl) rfl ?_
  refine hz_iadd (pc := 348) (hz_dec kX12_turnWords 225 rfl) ?_
  refine hz_iast (pc := 349) (j := 4) (hz_dec kX12_turnWords 226 rfl) (va_up_self _ _ _) (by omega) (by omega) rfl (by omega) (by decide) ?_
  refine hz_mem (pc := 350) (M2 := (va_up (va_up M (B + 4) (.inl (0, 64, .inl (sh_ext u 48)))) (B + 3) (.inl (0, 8, .inl (upd (upd (upd (upd (upd v 0 (((v 0) + (s8.1)))) 1 ((((upd v 0 (((v 0) + (s8.1)))) 1) + (s8.2.1)))) 2 ((((upd (upd v 0 (((v 0) + (s8.1)))) 1 ((((upd v 0 (((v 0) + (s8.1)))) 1) + (s8.2.1)))) 2) + (s8.2.2.1)))) 3 ((((upd (upd (upd v 0 (((v 0) + (s8.1)))) 1 ((((upd v 0 (((v 0) + (s8.1)))) 1) + (s8.2.1)))) 2 ((((upd (upd v 0 (((v 0) + (s8.1)))) 1 ((((upd v 0 (((v 0) + (s8.1)))) 1) + (s8.2.1)))) 2) + (s8.2.2.1)))) 3) + (s8.2.2.2.1)))) 4 ((((upd (upd (upd (upd v 0 (((v 0) + (s8.1)))) 1 ((((upd v 0 (((v 0) + (s8.1)))) 1) + (s8.2.1)))) 2 ((((upd (upd v 0 (((v 0) + (s8.1)))) 1 ((((upd v 0 (((v 0) + (s8.1)))) 1) + (s8.2.1)))) 2) + (s8.2.2.1)))) 3 ((((upd (upd (upd v 0 (((v 0) + (s8.1)))) 1 ((((upd v 0 (((v 0) + (s8.1)))) 1) + (s8.2.1)))) 2 ((((upd (upd v 0 (((v 0) + (s8.1)))) 1 ((((upd v 0 (((v 0) + (s8.1)))) 1) + (s8.2.1)))) 2) + (s8.2.2.1)))) 3) + (s8.2.2.2.1)))) 4) + (s8.2.2.2.2.1)))))))) (bx_uu _ _ _ _) ?_
  refine hz_aloadn (pc := 350) 8 (hz_dec kX12_turnWords 227 rfl) rfl ?_
  refine hz_get (pc := 351) (v := .ref (B + 3)) (hz_dec kX12_turnWords 228 rfl) fo_X12_16 (hz_mne (hz_mne hO (by omega)) (by omega)) h8 (by omega) (hF.2 4 (by decide) (by decide)) ?_
  refine hz_iconst (pc := 354) (v := nI 5) (hz_dec kX12_turnWords 229 rfl) (by decide) ?_
  refine hz_dup2 (pc := 355) (hz_dec kX12_turnWords 230 rfl) rfl rfl ?_
  refine hz_iald (pc := 356) (j := 5) (hz_dec kX12_turnWords 231 rfl) (va_up_self _ _ _) (by omega) (by omega) rfl (by omega) (by decide) ?_
  refine hz_iload (pc := 357) 5 (hz_dec kX12_turnWords 232 rfl) rfl ?_
  refine hz_iadd (pc := 359) (hz_dec kX12_turnWords 233 rfl) ?_
  refine hz_iast (pc := 360) (j := 5) (hz_dec kX12_turnWords 234 rfl) (va_up_self _ _ _) (by omega) (by omega) rfl (by omega) (by decide) ?_
  refine hz_mem (pc := 361) (M2 := (va_up (va_up M (B + 4) (.inl (0, 64, .inl (sh_ext u 48)))) (B + 3) (.inl (0, 8, .inl (upd (upd (upd (upd (upd (upd v 0 (((v 0) + (s8.1)))) 1 ((((upd v 0 (((v 0) + (s8.1)))) 1) + (s8.2.1)))) 2 ((((upd (upd v 0 (((v 0) + (s8.1)))) 1 ((((upd v 0 (((v 0) + (s8.1)))) 1) + (s8.2.1)))) 2) + (s8.2.2.1)))) 3 ((((upd (upd (upd v 0 (((v 0) + (s8.1)))) 1 ((((upd v 0 (((v 0) + (s8.1)))) 1) + (s8.2.1)))) 2 ((((upd (upd v 0 (((v 0) + (s8.1)))) 1 ((((upd v 0 (((v 0) + (s8.1)))) 1) + (s8.2.1)))) 2) + (s8.2.2.1)))) 3) + (s8.2.2.2.1)))) 4 ((((upd (upd (upd (upd v 0 (((v 0) + (s8.1)))) 1 ((((upd v 0 (((v 0) + (s8.1)))) 1) + (s8.2.1)))) 2 ((((upd (upd v 0 (((v 0) + (s8.1)))) 1 ((((upd v 0 (((v 0) + (s8.1)))) 1) + (s8.2.1)))) 2) + (s8.2.2.1)))) 3 ((((upd (upd (upd v 0 (((v 0) + (s8.1)))) 1 ((((upd v 0 (((v 0) + (s8.1)))) 1) + (s8.2.1)))) 2 ((((upd (upd v 0 (((v 0) + (s8.1)))) 1 ((((upd v 0 (((v 0) + (s8.1)))) 1) + (s8.2.1)))) 2) + (s8.2.2.1)))) 3) + (s8.2.2.2.1)))) 4) + (s8.2.2.2.2.1)))) 5 ((((upd (upd (upd (upd (upd v 0 (((v 0) + (s8.1)))) 1 ((((upd v 0 (((v 0) + (s8.1)))) 1) + (s8.2.1)))) 2 ((((upd (upd v 0 (((v 0) + (s8.1)))) 1 ((((upd v 0 (((v 0) + (s8.1)))) 1) + (s8.2.1)))) 2) + (s8.2.2.1)))) 3 ((((upd (upd (upd v 0 (((v 0) + (s8.1)))) 1 ((((upd v 0 (((v 0) + (s8.1)))) 1) + (s8.2.1)))) 2 ((((upd (upd v 0 (((v 0) + (s8.1)))) 1 ((((upd v 0 (((v 0) + (s8.1)))) 1) + (s8.2.1)))) 2) + (s8.2.2.1)))) 3) + (s8.2.2.2.1)))) 4 ((((upd (upd (upd (upd v 0 (((v 0) + (s8.1)))) 1 ((((upd v 0 (((v 0) + (s8.1)))) 1) + (s8.2.1)))) 2 ((((upd (upd v 0 (((v 0) + (s8.1)))) 1 ((((upd v 0 (((v 0) + (s8.1)))) 1) + (s8.2.1)))) 2) + (s8.2.2.1)))) 3 ((((upd (upd (upd v 0 (((v 0) + (s8.1)))) 1 ((((upd v 0 (((v 0) + (s8.1)))) 1) + (s8.2.1)))) 2 ((((upd (upd v 0 (((v 0) + (s8.1)))) 1 ((((upd v 0 (((v 0) + (s8.1)))) 1) + (s8.2.1)))) 2) + (s8.2.2.1)))) 3) + (s8.2.2.2.1)))) 4) + (s8.2.2.2.2.1)))) 5) + (s8.2.2.2.2.2.1)))))))) (bx_uu _ _ _ _) ?_
  refine hz_aloadn (pc := 361) 8 (hz_dec kX12_turnWords 235 rfl) rfl ?_
  refine hz_get (pc := 362) (v := .ref (B + 3)) (hz_dec kX12_turnWords 236 rfl) fo_X12_16 (hz_mne (hz_mne hO (by omega)) (by omega)) h8 (by omega) (hF.2 4 (by decide) (by decide)) ?_
  refine hz_bipush (pc := 365) (v := nI 6) (hz_dec kX12_turnWords 237 rfl) (by decide) ?_
  refine hz_dup2 (pc := 367) (hz_dec kX12_turnWords 238 rfl) rfl rfl ?_
  refine hz_iald (pc := 368) (j := 6) (hz_dec kX12_turnWords 239 rfl) (va_up_self _ _ _) (by omega) (by omega) rfl (by omega) (by decide) ?_
  refine hz_iload (pc := 369) 6 (hz_dec kX12_turnWords 240 rfl) rfl ?_
  refine hz_iadd (pc := 371) (hz_dec kX12_turnWords 241 rfl) ?_
  refine hz_iast (pc := 372) (j := 6) (hz_dec kX12_turnWords 242 rfl) (va_up_self _ _ _) (by omega) (by omega) rfl (by omega) (by decide) ?_
  refine hz_mem (pc := 373) (M2 := (va_up (va_up M (B + 4) (.inl (0, 64, .inl (sh_ext u 48)))) (B + 3) (.inl (0, 8, .inl (upd (upd (upd (upd (upd (upd (upd v 0 (((v 0) + (s8.1)))) 1 ((((upd v 0 (((v 0) + (s8.1)))) 1) + (s8.2.1)))) 2 ((((upd (upd v 0 (((v 0) + (s8.1)))) 1 ((((upd v 0 (((v 0) + (s8.1)))) 1) + (s8.2.1)))) 2) + (s8.2.2.1)))) 3 ((((upd (upd (upd v 0 (((v 0) + (s8.1)))) 1 ((((upd v 0 (((v 0) + (s8.1)))) 1) + (s8.2.1)))) 2 ((((upd (upd v 0 (((v 0) + (s8.1)))) 1 ((((upd v 0 (((v 0) + (s8.1)))) 1) + (s8.2.1)))) 2) + (s8.2.2.1)))) 3) + (s8.2.2.2.1)))) 4 ((((upd (upd (upd (upd v 0 (((v 0) + (s8.1)))) 1 ((((upd v 0 (((v 0) + (s8.1)))) 1) + (s8.2.1)))) 2 ((((upd (upd v 0 (((v 0) + (s8.1)))) 1 ((((upd v 0 (((v 0) + (s8.1)))) 1) + (s8.2.1)))) 2) + (s8.2.2.1)))) 3 ((((upd (upd (upd v 0 (((v 0) + (s8.1)))) 1 ((((upd v 0 (((v 0) + (s8.1)))) 1) + (s8.2.1)))) 2 ((((upd (upd v 0 (((v 0) + (s8.1)))) 1 ((((upd v 0 (((v 0) + (s8.1)))) 1) + (s8.2.1)))) 2) + (s8.2.2.1)))) 3) + (s8.2.2.2.1)))) 4) + (s8.2.2.2.2.1)))) 5 ((((upd (upd (upd (upd (upd v 0 (((v 0) + (s8.1)))) 1 ((((upd v 0 (((v 0) + (s8.1)))) 1) + (s8.2.1)))) 2 ((((upd (upd v 0 (((v 0) + (s8.1)))) 1 ((((upd v 0 (((v 0) + (s8.1)))) 1) + (s8.2.1)))) 2) + (s8.2.2.1)))) 3 ((((upd (upd (upd v 0 (((v 0) + (s8.1)))) 1 ((((upd v 0 (((v 0) + (s8.1)))) 1) + (s8.2.1)))) 2 ((((upd (upd v 0 (((v 0) + (s8.1)))) 1 ((((upd v 0 (((v 0) + (s8.1)))) 1) + (s8.2.1)))) 2) + (s8.2.2.1)))) 3) + (s8.2.2.2.1)))) 4 ((((upd (upd (upd (upd v 0 (((v 0) + (s8.1)))) 1 ((((upd v 0 (((v 0) + (s8.1)))) 1) + (s8.2.1)))) 2 ((((upd (upd v 0 (((v 0) + (s8.1)))) 1 ((((upd v 0 (((v 0) + (s8.1)))) 1) + (s8.2.1)))) 2) + (s8.2.2.1)))) 3 ((((upd (upd (upd v 0 (((v 0) + (s8.1)))) 1 ((((upd v 0 (((v 0) + (s8.1)))) 1) + (s8.2.1)))) 2 ((((upd (upd v 0 (((v 0) + (s8.1)))) 1 ((((upd v 0 (((v 0) + (s8.1)))) 1) + (s8.2.1)))) 2) + (s8.2.2.1)))) 3) + (s8.2.2.2.1)))) 4) + (s8.2.2.2.2.1)))) 5) + (s8.2.2.2.2.2.1)))) 6 ((((upd (upd (upd (upd (upd (upd v 0 (((v 0) + (s8.1)))) 1 ((((upd v 0 (((v 0) + (s8.1)))) 1) + (s8.2.1)))) 2 ((((upd (upd v 0 (((v 0) + (s8.1)))) 1 ((((upd v 0 (((v 0) + (s8.1)))) 1) + (s8.2.1)))) 2) + (s8.2.2.1)))) 3 ((((upd (upd (upd v 0 (((v 0) + (s8.1)))) 1 ((((upd v 0 (((v 0) + (s8.1)))) 1) + (s8.2.1)))) 2 ((((upd (upd v 0 (((v 0) + (s8.1)))) 1 ((((upd v 0 (((v 0) + (s8.1)))) 1) + (s8.2.1)))) 2) + (s8.2.2.1)))) 3) + (s8.2.2.2.1)))) 4 ((((upd (upd (upd (upd v 0 (((v 0) + (s8.1)))) 1 ((((upd v 0 (((v 0) + (s8.1)))) 1) + (s8.2.1)))) 2 ((((upd (upd v 0 (((v 0) + (s8.1)))) 1 ((((upd v 0 (((v 0) + (s8.1)))) 1) + (s8.2.1)))) 2) + (s8.2.2.1)))) 3 ((((upd (upd (upd v 0 (((v 0) + (s8.1)))) 1 ((((upd v 0 (((v 0) + (s8.1)))) 1) + (s8.2.1)))) 2 ((((upd (upd v 0 (((v 0) + (s8.1)))) 1 ((((upd v 0 (((v 0) + (s8.1)))) 1) + (s8.2.1)))) 2) + (s8.2.2.1)))) 3) + (s8.2.2.2.1)))) 4) + (s8.2.2.2.2.1)))) 5 ((((upd (upd (upd (upd (upd v 0 (((v 0) + (s8.1)))) 1 ((((upd v 0 (((v 0) + (s8.1)))) 1) + (s8.2.1)))) 2 ((((upd (upd v 0 (((v 0) + (s8.1)))) 1 ((((upd v 0 (((v 0) + (s8.1)))) 1) + (s8.2.1)))) 2) + (s8.2.2.1)))) 3 ((((upd (upd (upd v 0 (((v 0) + (s8.1)))) 1 ((((upd v 0 (((v 0) + (s8.1)))) 1) + (s8.2.1)))) 2 ((((upd (upd v 0 (((v 0) + (s8.1)))) 1 ((((upd v 0 (((v 0) + (s8.1)))) 1) + (s8.2.1)))) 2) + (s8.2.2.1)))) 3) + (s8.2.2.2.1)))) 4 ((((upd (upd (upd (upd v 0 (((v 0) + (s8.1)))) 1 ((((upd v 0 (((v 0) + (s8.1)))) 1) + (s8.2.1)))) 2 ((((upd (upd v 0 (((v 0) + (s8.1)))) 1 ((((upd v 0 (((v 0) + (s8.1)))) 1) + (s8.2.1)))) 2) + (s8.2.2.1)))) 3 ((((upd (upd (upd v 0 (((v 0) + (s8.1)))) 1 ((((upd v 0 (((v 0) + (s8.1)))) 1) + (s8.2.1)))) 2 ((((upd (upd v 0 (((v 0) + (s8.1)))) 1 ((((upd v 0 (((v 0) + (s8.1)))) 1) + (s8.2.1)))) 2) + (s8.2.2.1)))) 3) + (s8.2.2.2.1)))) 4) + (s8.2.2.2.2.1)))) 5) + (s8.2.2.2.2.2.1)))) 6) + (s8.2.2.2.2.2.2.1)))))))) (bx_uu _ _ _ _) ?_
  refine hz_aloadn (pc := 373) 8 (hz_dec kX12_turnWords 243 rfl) rfl ?_
  refine hz_get (pc := 374) (v := .ref (B + 3)) (hz_dec kX12_turnWords 244 rfl) fo_X12_16 (hz_mne (hz_mne hO (by omega)) (by omega)) h8 (by omega) (hF.2 4 (by decide) (by decide)) ?_
  refine hz_bipush (pc := 377) (v := nI 7) (hz_dec kX12_turnWords 245 rfl) (by decide) ?_
  refine hz_dup2 (pc := 379) (hz_dec kX12_turnWords 246 rfl) rfl rfl ?_
  refine hz_iald (pc := 380) (j := 7) (hz_dec kX12_turnWords 247 rfl) (va_up_self _ _ _) (by omega) (by omega) rfl (by omega) (by decide) ?_
  refine hz_iload (pc := 381) 7 (hz_dec kX12_turnWords 248 rfl) rfl ?_
  refine hz_iadd (pc := 383) (hz_dec kX12_turnWords 249 rfl) ?_
  refine hz_iast (pc := 384) (j := 7) (hz_dec kX12_turnWords 250 rfl) (va_up_self _ _ _) (by omega) (by omega) rfl (by omega) (by decide) ?_
  refine hz_mem (pc := 385) (M2 := (va_up (va_up M (B + 4) (.inl (0, 64, .inl (sh_ext u 48)))) (B + 3) (.inl (0, 8, .inl (upd (upd (upd (upd (upd (upd (upd (upd v 0 (((v 0) + (s8.1)))) 1 ((((upd v 0 (((v 0) + (s8.1)))) 1) + (s8.2.1)))) 2 ((((upd (upd v 0 (((v 0) + (s8.1)))) 1 ((((upd v 0 (((v 0) + (s8.1)))) 1) + (s8.2.1)))) 2) + (s8.2.2.1)))) 3 ((((upd (upd (upd v 0 (((v 0) + (s8.1)))) 1 ((((upd v 0 (((v 0) + (s8.1)))) 1) + (s8.2.1)))) 2 ((((upd (upd v 0 (((v 0) + (s8.1)))) 1 ((((upd v 0 (((v 0) + (s8.1)))) 1) + (s8.2.1)))) 2) + (s8.2.2.1)))) 3) + (s8.2.2.2.1)))) 4 ((((upd (upd (upd (upd v 0 (((v 0) + (s8.1)))) 1 ((((upd v 0 (((v 0) + (s8.1)))) 1) + (s8.2.1)))) 2 ((((upd (upd v 0 (((v 0) + (s8.1)))) 1 ((((upd v 0 (((v 0) + (s8.1)))) 1) + (s8.2.1)))) 2) + (s8.2.2.1)))) 3 ((((upd (upd (upd v 0 (((v 0) + (s8.1)))) 1 ((((upd v 0 (((v 0) + (s8.1)))) 1) + (s8.2.1)))) 2 ((((upd (upd v 0 (((v 0) + (s8.1)))) 1 ((((upd v 0 (((v 0) + (s8.1)))) 1) + (s8.2.1)))) 2) + (s8.2.2.1)))) 3) + (s8.2.2.2.1)))) 4) + (s8.2.2.2.2.1)))) 5 ((((upd (upd (upd (upd (upd v 0 (((v 0) + (s8.1)))) 1 ((((upd v 0 (((v 0) + (s8.1)))) 1) + (s8.2.1)))) 2 ((((upd (upd v 0 (((v 0) + (s8.1)))) 1 ((((upd v 0 (((v 0) + (s8.1)))) 1) + (s8.2.1)))) 2) + (s8.2.2.1)))) 3 ((((upd (upd (upd v 0 (((v 0) + (s8.1)))) 1 ((((upd v 0 (((v 0) + (s8.1)))) 1) + (s8.2.1)))) 2 ((((upd (upd v 0 (((v 0) + (s8.1)))) 1 ((((upd v 0 (((v 0) + (s8.1)))) 1) + (s8.2.1)))) 2) + (s8.2.2.1)))) 3) + (s8.2.2.2.1)))) 4 ((((upd (upd (upd (upd v 0 (((v 0) + (s8.1)))) 1 ((((upd v 0 (((v 0) + (s8.1)))) 1) + (s8.2.1)))) 2 ((((upd (upd v 0 (((v 0) + (s8.1)))) 1 ((((upd v 0 (((v 0) + (s8.1)))) 1) + (s8.2.1)))) 2) + (s8.2.2.1)))) 3 ((((upd (upd (upd v 0 (((v 0) + (s8.1)))) 1 ((((upd v 0 (((v 0) + (s8.1)))) 1) + (s8.2.1)))) 2 ((((upd (upd v 0 (((v 0) + (s8.1)))) 1 ((((upd v 0 (((v 0) + (s8.1)))) 1) + (s8.2.1)))) 2) + (s8.2.2.1)))) 3) + (s8.2.2.2.1)))) 4) + (s8.2.2.2.2.1)))) 5) + (s8.2.2.2.2.2.1)))) 6 ((((upd (upd (upd (upd (upd (upd v 0 (((v 0) + (s8.1)))) 1 ((((upd v 0 (((v 0) + (s8.1)))) 1) + (s8.2.1)))) 2 ((((upd (upd v 0 (((v 0) + (s8.1)))) 1 ((((upd v 0 (((v 0) + (s8.1)))) 1) + (s8.2.1)))) 2) + (s8.2.2.1)))) 3 ((((upd (upd (upd v 0 (((v 0) + (s8.1)))) 1 ((((upd v 0 (((v 0) + (s8.1)))) 1) + (s8.2.1)))) 2 ((((upd (upd v 0 (((v 0) + (s8.1)))) 1 ((((upd v 0 (((v 0) + (s8.1)))) 1) + (s8.2.1)))) 2) + (s8.2.2.1)))) 3) + (s8.2.2.2.1)))) 4 ((((upd (upd (upd (upd v 0 (((v 0) + (s8.1)))) 1 ((((upd v 0 (((v 0) + (s8.1)))) 1) + (s8.2.1)))) 2 ((((upd (upd v 0 (((v 0) + (s8.1)))) 1 ((((upd v 0 (((v 0) + (s8.1)))) 1) + (s8.2.1)))) 2) + (s8.2.2.1)))) 3 ((((upd (upd (upd v 0 (((v 0) + (s8.1)))) 1 ((((upd v 0 (((v 0) + (s8.1)))) 1) + (s8.2.1)))) 2 ((((upd (upd v 0 (((v 0) + (s8.1)))) 1 ((((upd v 0 (((v 0) + (s8.1)))) 1) + (s8.2.1)))) 2) + (s8.2.2.1)))) 3) + (s8.2.2.2.1)))) 4) + (s8.2.2.2.2.1)))) 5 ((((upd (upd (upd (upd (upd v 0 (((v 0) + (s8.1)))) 1 ((((upd v 0 (((v 0) + (s8.1)))) 1) + (s8.2.1)))) 2 ((((upd (upd v 0 (((v 0) + (s8.1)))) 1 ((((upd v 0 (((v 0) + (s8.1)))) 1) + (s8.2.1)))) 2) + (s8.2.2.1)))) 3 ((((upd (upd (upd v 0 (((v 0) + (s8.1)))) 1 ((((upd v 0 (((v 0) + (s8.1)))) 1) + (s8.2.1)))) 2 ((((upd (upd v 0 (((v 0) + (s8.1)))) 1 ((((upd v 0 (((v 0) + (s8.1)))) 1) + (s8.2.1)))) 2) + (s8.2.2.1)))) 3) + (s8.2.2.2.1)))) 4 ((((upd (upd (upd (upd v 0 (((v 0) + (s8.1)))) 1 ((((upd v 0 (((v 0) + (s8.1)))) 1) + (s8.2.1)))) 2 ((((upd (upd v 0 (((v 0) + (s8.1)))) 1 ((((upd v 0 (((v 0) + (s8.1)))) 1) + (s8.2.1)))) 2) + (s8.2.2.1)))) 3 ((((upd (upd (upd v 0 (((v 0) + (s8.1)))) 1 ((((upd v 0 (((v 0) + (s8.1)))) 1) + (s8.2.1)))) 2 ((((upd (upd v 0 (((v 0) + (s8.1)))) 1 ((((upd v 0 (((v 0) + (s8.1)))) 1) + (s8.2.1)))) 2) + (s8.2.2.1)))) 3) + (s8.2.2.2.1)))) 4) + (s8.2.2.2.2.1)))) 5) + (s8.2.2.2.2.2.1)))) 6) + (s8.2.2.2.2.2.2.1)))) 7 ((((upd (upd (upd (upd (upd (upd (upd v 0 (((v 0) + (s8.1)))) 1 ((((upd v 0 (((v 0) + (s8.1)))) 1) + (s8.2.1)))) 2 ((((upd (upd v 0 (((v 0) + (s8.1)))) 1 ((((upd v 0 (((v 0) + (s8.1)))) 1) + (s8.2.1)))) 2) + (s8.2.2.1)))) 3 ((((upd (upd (upd v 0 (((v 0) + (s8.1)))) 1 ((((upd v 0 (((v 0) + (s8.1)))) 1) + (s8.2.1)))) 2 ((((upd (upd v 0 (((v 0) + (s8.1)))) 1 ((((upd v 0 (((v 0) + (s8.1)))) 1) + (s8.2.1)))) 2) + (s8.2.2.1)))) 3) + (s8.2.2.2.1)))) 4 ((((upd (upd (upd (upd v 0 (((v 0) + (s8.1)))) 1 ((((upd v 0 (((v 0) + (s8.1)))) 1) + (s8.2.1)))) 2 ((((upd (upd v 0 (((v 0) + (s8.1)))) 1 ((((upd v 0 (((v 0) + (s8.1)))) 1) + (s8.2.1)))) 2) + (s8.2.2.1)))) 3 ((((upd (upd (upd v 0 (((v 0) + (s8.1)))) 1 ((((upd v 0 (((v 0) + (s8.1)))) 1) + (s8.2.1)))) 2 ((((upd (upd v 0 (((v 0) + (s8.1)))) 1 ((((upd v 0 (((v 0) + (s8.1)))) 1) + (s8.2.1)))) 2) + (s8.2.2.1)))) 3) + (s8.2.2.2.1)))) 4) + (s8.2.2.2.2.1)))) 5 ((((upd (upd (upd (upd (upd v 0 (((v 0) + (s8.1)))) 1 ((((upd v 0 (((v 0) + (s8.1)))) 1) + (s8.2.1)))) 2 ((((upd (upd v 0 (((v 0) + (s8.1)))) 1 ((((upd v 0 (((v 0) + (s8.1)))) 1) + (s8.2.1)))) 2) + (s8.2.2.1)))) 3 ((((upd (upd (upd v 0 (((v 0) + (s8.1)))) 1 ((((upd v 0 (((v 0) + (s8.1)))) 1) + (s8.2.1)))) 2 ((((upd (upd v 0 (((v 0) + (s8.1)))) 1 ((((upd v 0 (((v 0) + (s8.1)))) 1) + (s8.2.1)))) 2) + (s8.2.2.1)))) 3) + (s8.2.2.2.1)))) 4 ((((upd (upd (upd (upd v 0 (((v 0) + (s8.1)))) 1 ((((upd v 0 (((v 0) + (s8.1)))) 1) + (s8.2.1)))) 2 ((((upd (upd v 0 (((v 0) + (s8.1)))) 1 ((((upd v 0 (((v 0) + (s8.1)))) 1) + (s8.2.1)))) 2) + (s8.2.2.1)))) 3 ((((upd (upd (upd v 0 (((v 0) + (s8.1)))) 1 ((((upd v 0 (((v 0) + (s8.1)))) 1) + (s8.2.1)))) 2 ((((upd (upd v 0 (((v 0) + (s8.1)))) 1 ((((upd v 0 (((v 0) + (s8.1)))) 1) + (s8.2.1)))) 2) + (s8.2.2.1)))) 3) + (s8.2.2.2.1)))) 4) + (s8.2.2.2.2.1)))) 5) + (s8.2.2.2.2.2.1)))) 6 ((((upd (upd (upd (upd (upd (upd v 0 (((v 0) + (s8.1)))) 1 ((((upd v 0 (((v 0) + (s8.1)))) 1) + (s8.2.1)))) 2 ((((upd (upd v 0 (((v 0) + (s8.1)))) 1 ((((upd v 0 (((v 0) + (s8.1)))) 1) + (s8.2.1)))) 2) + (s8.2.2.1)))) 3 ((((upd (upd (upd v 0 (((v 0) + (s8.1)))) 1 ((((upd v 0 (((v 0) + (s8.1)))) 1) + (s8.2.1)))) 2 ((((upd (upd v 0 (((v 0) + (s8.1)))) 1 ((((upd v 0 (((v 0) + (s8.1)))) 1) + (s8.2.1)))) 2) + (s8.2.2.1)))) 3) + (s8.2.2.2.1)))) 4 ((((upd (upd (upd (upd v 0 (((v 0) + (s8.1)))) 1 ((((upd v 0 (((v 0) + (s8.1)))) 1) + (s8.2.1)))) 2 ((((upd (upd v 0 (((v 0) + (s8.1)))) 1 ((((upd v 0 (((v 0) + (s8.1)))) 1) + (s8.2.1)))) 2) + (s8.2.2.1)))) 3 ((((upd (upd (upd v 0 (((v 0) + (s8.1)))) 1 ((((upd v 0 (((v 0) + (s8.1)))) 1) + (s8.2.1)))) 2 ((((upd (upd v 0 (((v 0) + (s8.1)))) 1 ((((upd v 0 (((v 0) + (s8.1)))) 1) + (s8.2.1)))) 2) + (s8.2.2.1)))) 3) + (s8.2.2.2.1)))) 4) + (s8.2.2.2.2.1)))) 5 ((((upd (upd (upd (upd (upd v 0 (((v 0) + (s8.1)))) 1 ((((upd v 0 (((v 0) + (s8.1)))) 1) + (s8.2.1)))) 2 ((((upd (upd v 0 (((v 0) + (s8.1)))) 1 ((((upd v 0 (((v 0) + (s8.1)))) 1) + (s8.2.1)))) 2) + (s8.2.2.1)))) 3 ((((upd (upd (upd v 0 (((v 0) + (s8.1)))) 1 ((((upd v 0 (((v 0) + (s8.1)))) 1) + (s8.2.1)))) 2 ((((upd (upd v 0 (((v 0) + (s8.1)))) 1 ((((upd v 0 (((v 0) + (s8.1)))) 1) + (s8.2.1)))) 2) + (s8.2.2.1)))) 3) + (s8.2.2.2.1)))) 4 ((((upd (upd (upd (upd v 0 (((v 0) + (s8.1)))) 1 ((((upd v 0 (((v 0) + (s8.1)))) 1) + (s8.2.1)))) 2 ((((upd (upd v 0 (((v 0) + (s8.1)))) 1 ((((upd v 0 (((v 0) + (s8.1)))) 1) + (s8.2.1)))) 2) + (s8.2.2.1)))) 3 ((((upd (upd (upd v 0 (((v 0) + (s8.1)))) 1 ((((upd v 0 (((v 0) + (s8.1)))) 1) + (s8.2.1)))) 2 ((((upd (upd v 0 (((v 0) + (s8.1)))) 1 ((((upd v 0 (((v 0) + (s8.1)))) 1) + (s8.2.1)))) 2) + (s8.2.2.1)))) 3) + (s8.2.2.2.1)))) 4) + (s8.2.2.2.2.1)))) 5) + (s8.2.2.2.2.2.1)))) 6) + (s8.2.2.2.2.2.2.1)))) 7) + (s8.2.2.2.2.2.2.2)))))))) (bx_uu _ _ _ _) ?_
  exact hz_vret (pc := 385) (hz_dec kX12_turnWords 251 rfl) rfl ⟨rfl, rfl, _, _, sh_val s8 hs.symm, hz_upx (by omega)⟩
