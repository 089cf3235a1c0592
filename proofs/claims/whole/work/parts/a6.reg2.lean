/-! the reference: register, whole -/
/-- what register has written down of block n of node v -/
def rgX (M M2 : hz_M) (B v n : Nat) (l : by_L) (pl pr : Int32) (h to : Nat) : Prop := fA M2 B 20 v = nI (n + 1) ∧ fA M2 B 24 (128 * v + n) = pl ∧ fA M2 B 25 (128 * v + n) = nI l.length ∧ fA M2 B 26 (128 * v + n) = pr ∧ fA M2 B 27 (128 * v + n) = nI h ∧ fA M2 B 28 (128 * v + n) = bn_int (lf l) 64 ∧ fA M2 B 29 (128 * v + n) = bn_int (lf l) 68 ∧ isA (fA M2 B 30) (32 * (128 * v + n)) (haS l) ∧ bg (fA M2 B 31) (9 * (128 * v + n)) 9 = to ∧ fA M2 B 32 (128 * v + n) = nI (bkN l) ∧ (∀ j, j < bkN l → fL M2 B 33 (8 * (128 * v + n) + j) = idS (bkT l j)) ∧
  (∀ o ∈ [24, 25, 26, 27, 28, 29, 32], ∀ x, ¬ x = 128 * v + n → fA M2 B o x = fA M B o x) ∧ (∀ x, x < 32 * (128 * v + n) ∨ 32 * (128 * v + n) + 32 ≤ x → fA M2 B 30 x = fA M B 30 x) ∧ (∀ x, x < 9 * (128 * v + n) ∨ 9 * (128 * v + n) + 9 ≤ x → fA M2 B 31 x = fA M B 31 x) ∧ ∀ x, x < 8 * (128 * v + n) ∨ 8 * (128 * v + n) + 8 ≤ x → fL M2 B 33 x = fL M B 33 x
set_option maxHeartbeats 4000000 in
set_option maxRecDepth 100000 in
theorem c_regP {κ : hz_C} {z : Nat} {M : hz_M} {B : Nat} (hk0 : md_k B M z) (hE0 : mdE M B) {v n : Nat} (hv : v < 6) (hn : n < 128) (h20 : fA M B 20 v = nI n) {l : by_L} (hW : blW l) (hA0 : isA (fA M B 35) 0 l) (h390 : fdB M B 39 = some (.int (nI l.length))) (h140 : ∀ j, j ≤ bkN l → fA M B 14 j = nI (bkS l j)) (h160 : fdB M B 16 = some (.int (nI (bkN l)))) (h50 : ∀ j, j < 32 → fA M B 5 j = lf (haS l) j) {pl : Int32} {p h : Nat} (hp : p < n) (h27 : fA M B 27 (128 * v + p) = nI h) (hh : h < 1000) (hRt : tgR (bn_int (lf l) 68) = true) (hto : bg (fA M B 31) (9 * (128 * v + p)) 9 + wkN (bn_int (lf l) 68) < 4294967296 ^ 9) : hz_Mt κ xX12_register 4 0 0 [.ref B, .int (nI v), .int pl, .int (nI p)] z M (fun r z2 M2 => none = r ∧ z = z2 ∧ mfr B [] [3, 4, 5, 10, 11, 12, 13, 20, 24, 25, 26, 27, 28, 29, 30, 31, 32, 33, 36] M M2 ∧ mdE M2 B ∧ agV M M2 B v ∧ rgX M M2 B v n l pl (nI p) (h + 1) (bg (fA M B 31) (9 * (128 * v + p)) 9 + wkN (bn_int (lf l) 68))) := by
  refine hz_ent (lo := [(0, .ref B), (1, .int (nI v)), (2, .int pl), (3, .int (nI p))]) (by decide) (Nat.le_of_ble_eq_true rfl) rfl ?_
  obtain ⟨⟨fs, hO, hF⟩, -, -, h8, hz⟩ := id hk0
  have g39 : fs[39]? = some (.int (nI l.length)) := (fdB_of hO 39).symm.trans h390
  have hln9 := hW.len
  refine hz_aloadn (pc := 0) 0 (hz_dec kX12_register 0 rfl) rfl ?_
  refine hz_get (pc := 1) (v := .ref (B + 20)) (hz_dec kX12_register 1 rfl) fo_X12_71 hO h8 (by omega) (hF.2 22 (by decide) (by decide)) ?_
  refine hz_iloadn (pc := 4) 1 (hz_dec kX12_register 2 rfl) rfl ?_
  refine hz_iald (pc := 5) (j := v) (hz_dec kX12_register 3 rfl) hE0.a20 (by omega) (by omega) rfl (by omega) (by decide) ?_
  refine hz_eqi (pc := 6) h20 ?_
  refine hz_istore (pc := 6) (i := 4) (lo2 := [(4, .int (nI n)), (0, .ref B), (1, .int (nI v)), (2, .int pl), (3, .int (nI p))]) (hz_dec kX12_register 4 rfl) (by decide) rfl ?_
  refine hz_iloadn (pc := 8) 2 (hz_dec kX12_register 5 rfl) rfl ?_
  refine hz_iload (pc := 9) 0 (hz_dec kX12_register 6 rfl) rfl ?_
  refine hz_xS (pc := 11) (As := [.int (nI v), .int (nI n)]) (st := []) (hz_dec kX12_register 7 rfl) co_X12_419 sc_X12_at0 (c_at0) rfl (by decide) ⟨Nat.le_refl _, Nat.le_refl _⟩ (Nat.le_of_ble_eq_true rfl) rfl ?_
  refine hz_istore (pc := 14) (i := 5) (lo2 := [(5, .int (nI (128 * v + n))), (4, .int (nI n)), (0, .ref B), (1, .int (nI v)), (2, .int pl), (3, .int (nI p))]) (hz_dec kX12_register 8 rfl) (by decide) rfl ?_
  refine hz_aloadn (pc := 16) 2 (hz_dec kX12_register 9 rfl) rfl ?_
  refine hz_get (pc := 17) (v := .ref (B + 20)) (hz_dec kX12_register 10 rfl) fo_X12_71 hO h8 (by omega) (hF.2 22 (by decide) (by decide)) ?_
  refine hz_iloadn (pc := 20) 3 (hz_dec kX12_register 11 rfl) rfl ?_
  refine hz_dup2 (pc := 21) (hz_dec kX12_register 12 rfl) rfl rfl ?_
  refine hz_iald (pc := 22) (j := v) (hz_dec kX12_register 13 rfl) hE0.a20 (by omega) (by omega) rfl (by omega) (by decide) ?_
  refine hz_eqi (pc := 23) h20 ?_
  refine hz_iconst (pc := 23) (v := nI 1) (hz_dec kX12_register 14 rfl) (by decide) ?_
  refine hz_addN (pc := 24) (hz_dec kX12_register 15 rfl) ?_
  refine hz_iast (pc := 25) (j := v) (hz_dec kX12_register 16 rfl) hE0.a20 (by omega) (by omega) rfl (by omega) (by decide) ?_
  refine hz_aloadn (pc := 26) 2 (hz_dec kX12_register 17 rfl) rfl ?_
  refine hz_get (pc := 27) (v := .ref (B + 24)) (hz_dec kX12_register 18 rfl) fo_X12_83 (hz_mne hO (by omega)) h8 (by omega) (hF.2 26 (by decide) (by decide)) ?_
  refine hz_iload (pc := 30) 0 (hz_dec kX12_register 19 rfl) rfl ?_
  refine hz_iloadn (pc := 32) 4 (hz_dec kX12_register 20 rfl) rfl ?_
  refine hz_iast (pc := 33) (j := 128 * v + n) (hz_dec kX12_register 21 rfl) (hz_mne hE0.a24 (by omega)) (by omega) (by omega) rfl (by omega) (by decide) ?_
  refine hz_aloadn (pc := 34) 2 (hz_dec kX12_register 22 rfl) rfl ?_
  refine hz_get (pc := 35) (v := .ref (B + 25)) (hz_dec kX12_register 23 rfl) fo_X12_86 (hz_mne (hz_mne hO (by omega)) (by omega)) h8 (by omega) (hF.2 27 (by decide) (by decide)) ?_
  refine hz_iload (pc := 38) 0 (hz_dec kX12_register 24 rfl) rfl ?_
  refine hz_aloadn (pc := 40) 2 (hz_dec kX12_register 25 rfl) rfl ?_
  refine hz_get (pc := 41) (v := .int (nI (l.length))) (hz_dec kX12_register 26 rfl) fo_X12_422 (hz_mne (hz_mne hO (by omega)) (by omega)) h8 (by omega) g39 ?_
  refine hz_iast (pc := 44) (j := 128 * v + n) (hz_dec kX12_register 27 rfl) (hz_mne (hz_mne hE0.a25 (by omega)) (by omega)) (by omega) (by omega) rfl (by omega) (by decide) ?_
  refine hz_aloadn (pc := 45) 2 (hz_dec kX12_register 28 rfl) rfl ?_
  refine hz_get (pc := 46) (v := .ref (B + 26)) (hz_dec kX12_register 29 rfl) fo_X12_89 (hz_mne (hz_mne (hz_mne hO (by omega)) (by omega)) (by omega)) h8 (by omega) (hF.2 28 (by decide) (by decide)) ?_
  refine hz_iload (pc := 49) 0 (hz_dec kX12_register 30 rfl) rfl ?_
  refine hz_iloadn (pc := 51) 5 (hz_dec kX12_register 31 rfl) rfl ?_
  refine hz_iast (pc := 52) (j := 128 * v + n) (hz_dec kX12_register 32 rfl) (hz_mne (hz_mne (hz_mne hE0.a26 (by omega)) (by omega)) (by omega)) (by omega) (by omega) rfl (by omega) (by decide) ?_
  refine hz_aloadn (pc := 53) 2 (hz_dec kX12_register 33 rfl) rfl ?_
  refine hz_get (pc := 54) (v := .ref (B + 27)) (hz_dec kX12_register 34 rfl) fo_X12_92 (hz_mne (hz_mne (hz_mne (hz_mne hO (by omega)) (by omega)) (by omega)) (by omega)) h8 (by omega) (hF.2 29 (by decide) (by decide)) ?_
  refine hz_iload (pc := 57) 0 (hz_dec kX12_register 35 rfl) rfl ?_
  refine hz_iloadn (pc := 59) 5 (hz_dec kX12_register 36 rfl) rfl ?_
  refine hz_z_ge (pc := 60) (tgt := 67) (hz_dec kX12_register 37 rfl) (by decide) (by omega) ?_
  refine hz_aloadn (pc := 67) 2 (hz_dec kX12_register 40 rfl) rfl ?_
  refine hz_get (pc := 68) (v := .ref (B + 27)) (hz_dec kX12_register 41 rfl) fo_X12_92 (hz_mne (hz_mne (hz_mne (hz_mne hO (by omega)) (by omega)) (by omega)) (by omega)) h8 (by omega) (hF.2 29 (by decide) (by decide)) ?_
  refine hz_iloadn (pc := 71) 3 (hz_dec kX12_register 42 rfl) rfl ?_
  refine hz_iloadn (pc := 72) 5 (hz_dec kX12_register 43 rfl) rfl ?_
  refine hz_xS (pc := 73) (As := [.int (nI v), .int (nI p)]) (st := [.ref (B + 27), .int (nI (128 * v + n)), .ref (B + 27)]) (hz_dec kX12_register 44 rfl) co_X12_419 sc_X12_at0 (c_at0) rfl (by decide) ⟨Nat.le_refl _, Nat.le_refl _⟩ (Nat.le_of_ble_eq_true rfl) rfl ?_
  refine hz_iald (pc := 76) (j := 128 * v + p) (hz_dec kX12_register 45 rfl) (hz_mne (hz_mne (hz_mne (hz_mne hE0.a27 (by omega)) (by omega)) (by omega)) (by omega)) (by omega) (by omega) rfl (by omega) (by decide) ?_
  refine hz_eqi (pc := 77) h27 ?_
  refine hz_iconst (pc := 77) (v := nI 1) (hz_dec kX12_register 46 rfl) (by decide) ?_
  refine hz_addN (pc := 78) (hz_dec kX12_register 47 rfl) ?_
  refine hz_iast (pc := 79) (j := 128 * v + n) (hz_dec kX12_register 48 rfl) (hz_mne (hz_mne (hz_mne (hz_mne hE0.a27 (by omega)) (by omega)) (by omega)) (by omega)) (by omega) (by omega) rfl (by omega) (by decide) ?_
  refine hz_aloadn (pc := 80) 2 (hz_dec kX12_register 49 rfl) rfl ?_
  refine hz_get (pc := 81) (v := .ref (B + 28)) (hz_dec kX12_register 50 rfl) fo_X12_95 (hz_mne (hz_mne (hz_mne (hz_mne (hz_mne hO (by omega)) (by omega)) (by omega)) (by omega)) (by omega)) h8 (by omega) (hF.2 30 (by decide) (by decide)) ?_
  refine hz_iload (pc := 84) 0 (hz_dec kX12_register 51 rfl) rfl ?_
  refine hz_aloadn (pc := 86) 2 (hz_dec kX12_register 52 rfl) rfl ?_
  refine hz_get (pc := 87) (v := .ref (B + 35)) (hz_dec kX12_register 53 rfl) fo_X12_116 (hz_mne (hz_mne (hz_mne (hz_mne (hz_mne hO (by omega)) (by omega)) (by omega)) (by omega)) (by omega)) h8 (by omega) (hF.2 38 (by decide) (by decide)) ?_
  refine hz_bipush (pc := 90) (v := nI 64) (hz_dec kX12_register 54 rfl) (by decide) ?_
  refine hz_xS (pc := 92) (As := [.ref (B + 35), .int (nI 64)]) (st := [.int (nI (128 * v + n)), .ref (B + 28)]) (hz_dec kX12_register 55 rfl) co_X12_376 sc_X12_intAt (c_intAt (hz_mne (hz_mne (hz_mne (hz_mne (hz_mne hE0.a35 (by omega)) (by omega)) (by omega)) (by omega)) (by omega)) (by omega) (by omega) (by decide) (by decide)) rfl (by decide) ⟨Nat.le_refl _, Nat.le_refl _⟩ (Nat.le_of_ble_eq_true rfl) rfl ?_
  refine hz_eqi (pc := 95) (show _ = bn_int (lf l) 64 by have q := int_of hA0 (i := 64) (by omega); rw [Nat.zero_add] at q; exact q) ?_
  refine hz_iast (pc := 95) (j := 128 * v + n) (hz_dec kX12_register 56 rfl) (hz_mne (hz_mne (hz_mne (hz_mne (hz_mne hE0.a28 (by omega)) (by omega)) (by omega)) (by omega)) (by omega)) (by omega) (by omega) rfl (by omega) (by decide) ?_
  refine hz_aloadn (pc := 96) 2 (hz_dec kX12_register 57 rfl) rfl ?_
  refine hz_get (pc := 97) (v := .ref (B + 29)) (hz_dec kX12_register 58 rfl) fo_X12_98 (hz_mne (hz_mne (hz_mne (hz_mne (hz_mne (hz_mne hO (by omega)) (by omega)) (by omega)) (by omega)) (by omega)) (by omega)) h8 (by omega) (hF.2 31 (by decide) (by decide)) ?_
  refine hz_iload (pc := 100) 0 (hz_dec kX12_register 59 rfl) rfl ?_
  refine hz_aloadn (pc := 102) 2 (hz_dec kX12_register 60 rfl) rfl ?_
  refine hz_get (pc := 103) (v := .ref (B + 35)) (hz_dec kX12_register 61 rfl) fo_X12_116 (hz_mne (hz_mne (hz_mne (hz_mne (hz_mne (hz_mne hO (by omega)) (by omega)) (by omega)) (by omega)) (by omega)) (by omega)) h8 (by omega) (hF.2 38 (by decide) (by decide)) ?_
  refine hz_bipush (pc := 106) (v := nI 68) (hz_dec kX12_register 62 rfl) (by decide) ?_
  refine hz_xS (pc := 108) (As := [.ref (B + 35), .int (nI 68)]) (st := [.int (nI (128 * v + n)), .ref (B + 29)]) (hz_dec kX12_register 63 rfl) co_X12_376 sc_X12_intAt (c_intAt (hz_mne (hz_mne (hz_mne (hz_mne (hz_mne (hz_mne hE0.a35 (by omega)) (by omega)) (by omega)) (by omega)) (by omega)) (by omega)) (by omega) (by omega) (by decide) (by decide)) rfl (by decide) ⟨Nat.le_refl _, Nat.le_refl _⟩ (Nat.le_of_ble_eq_true rfl) rfl ?_
  refine hz_eqi (pc := 111) (show _ = bn_int (lf l) 68 by have q := int_of hA0 (i := 68) (by omega); rw [Nat.zero_add] at q; exact q) ?_
  refine hz_iast (pc := 111) (j := 128 * v + n) (hz_dec kX12_register 64 rfl) (hz_mne (hz_mne (hz_mne (hz_mne (hz_mne (hz_mne hE0.a29 (by omega)) (by omega)) (by omega)) (by omega)) (by omega)) (by omega)) (by omega) (by omega) rfl (by omega) (by decide) ?_
  have hm1 : mfr B [] [3, 4, 5, 10, 11, 12, 13, 20, 24, 25, 26, 27, 28, 29, 30, 31, 32, 33, 36] M (va_up (va_up (va_up (va_up (va_up (va_up (va_up M (B + 20) (.inl (0, 6, .inl (upd (fA M B 20) v ((nI (n + 1))))))) (B + 24) (.inl (0, 768, .inl (upd (fA M B 24) (128 * v + n) ((pl)))))) (B + 25) (.inl (0, 768, .inl (upd (fA M B 25) (128 * v + n) ((nI (l.length))))))) (B + 26) (.inl (0, 768, .inl (upd (fA M B 26) (128 * v + n) ((nI (p))))))) (B + 27) (.inl (0, 768, .inl (upd (fA M B 27) (128 * v + n) ((nI (h + 1))))))) (B + 28) (.inl (0, 768, .inl (upd (fA M B 28) (128 * v + n) ((bn_int (lf l) 64)))))) (B + 29) (.inl (0, 768, .inl (upd (fA M B 29) (128 * v + n) ((bn_int (lf l) 68)))))) := ((((((((mfr.rf ⟨fs, hO, hF⟩).upA (o := 20) rfl (by decide)).upA (o := 24) rfl (by decide)).upA (o := 25) rfl (by decide)).upA (o := 26) rfl (by decide)).upA (o := 27) rfl (by decide)).upA (o := 28) rfl (by decide)).upA (o := 29) rfl (by decide))
  have hE1 : mdE (va_up (va_up (va_up (va_up (va_up (va_up (va_up M (B + 20) (.inl (0, 6, .inl (upd (fA M B 20) v ((nI (n + 1))))))) (B + 24) (.inl (0, 768, .inl (upd (fA M B 24) (128 * v + n) ((pl)))))) (B + 25) (.inl (0, 768, .inl (upd (fA M B 25) (128 * v + n) ((nI (l.length))))))) (B + 26) (.inl (0, 768, .inl (upd (fA M B 26) (128 * v + n) ((nI (p))))))) (B + 27) (.inl (0, 768, .inl (upd (fA M B 27) (128 * v + n) ((nI (h + 1))))))) (B + 28) (.inl (0, 768, .inl (upd (fA M B 28) (128 * v + n) ((bn_int (lf l) 64)))))) (B + 29) (.inl (0, 768, .inl (upd (fA M B 29) (128 * v + n) ((bn_int (lf l) 68)))))) B := (((((((hE0.upA (by decide)).upA (by decide)).upA (by decide)).upA (by decide)).upA (by decide)).upA (by decide)).upA (by decide))
  have hg1 : agV M (va_up (va_up (va_up (va_up (va_up (va_up (va_up M (B + 20) (.inl (0, 6, .inl (upd (fA M B 20) v ((nI (n + 1))))))) (B + 24) (.inl (0, 768, .inl (upd (fA M B 24) (128 * v + n) ((pl)))))) (B + 25) (.inl (0, 768, .inl (upd (fA M B 25) (128 * v + n) ((nI (l.length))))))) (B + 26) (.inl (0, 768, .inl (upd (fA M B 26) (128 * v + n) ((nI (p))))))) (B + 27) (.inl (0, 768, .inl (upd (fA M B 27) (128 * v + n) ((nI (h + 1))))))) (B + 28) (.inl (0, 768, .inl (upd (fA M B 28) (128 * v + n) ((bn_int (lf l) 64)))))) (B + 29) (.inl (0, 768, .inl (upd (fA M B 29) (128 * v + n) ((bn_int (lf l) 68)))))) B v := (((((((agV.rf.upA (s := 1) (by decide) (by decide) (fun x hx => (upd_o (by omega)))).upA (s := 128) (by decide) (by decide) (fun x hx => (upd_o (by omega)).trans (by rw [fA_c (hz_mne rfl (by omega))]))).upA (s := 128) (by decide) (by decide) (fun x hx => (upd_o (by omega)).trans (by rw [fA_c (hz_mne (hz_mne rfl (by omega)) (by omega))]))).upA (s := 128) (by decide) (by decide) (fun x hx => (upd_o (by omega)).trans (by rw [fA_c (hz_mne (hz_mne (hz_mne rfl (by omega)) (by omega)) (by omega))]))).upA (s := 128) (by decide) (by decide) (fun x hx => (upd_o (by omega)).trans (by rw [fA_c (hz_mne (hz_mne (hz_mne (hz_mne rfl (by omega)) (by omega)) (by omega)) (by omega))]))).upA (s := 128) (by decide) (by decide) (fun x hx => (upd_o (by omega)).trans (by rw [fA_c (hz_mne (hz_mne (hz_mne (hz_mne (hz_mne rfl (by omega)) (by omega)) (by omega)) (by omega)) (by omega))]))).upA (s := 128) (by decide) (by decide) (fun x hx => (upd_o (by omega)).trans (by rw [fA_c (hz_mne (hz_mne (hz_mne (hz_mne (hz_mne (hz_mne rfl (by omega)) (by omega)) (by omega)) (by omega)) (by omega)) (by omega))])))
  have p20 : fA (va_up (va_up (va_up (va_up (va_up (va_up (va_up M (B + 20) (.inl (0, 6, .inl (upd (fA M B 20) v ((nI (n + 1))))))) (B + 24) (.inl (0, 768, .inl (upd (fA M B 24) (128 * v + n) ((pl)))))) (B + 25) (.inl (0, 768, .inl (upd (fA M B 25) (128 * v + n) ((nI (l.length))))))) (B + 26) (.inl (0, 768, .inl (upd (fA M B 26) (128 * v + n) ((nI (p))))))) (B + 27) (.inl (0, 768, .inl (upd (fA M B 27) (128 * v + n) ((nI (h + 1))))))) (B + 28) (.inl (0, 768, .inl (upd (fA M B 28) (128 * v + n) ((bn_int (lf l) 64)))))) (B + 29) (.inl (0, 768, .inl (upd (fA M B 29) (128 * v + n) ((bn_int (lf l) 68)))))) B 20 = upd (fA M B 20) v ((nI (n + 1))) := fA_of (hz_mne (hz_mne (hz_mne (hz_mne (hz_mne (hz_mne (va_up_self _ _ _) (by omega)) (by omega)) (by omega)) (by omega)) (by omega)) (by omega))
  have p24 : fA (va_up (va_up (va_up (va_up (va_up (va_up (va_up M (B + 20) (.inl (0, 6, .inl (upd (fA M B 20) v ((nI (n + 1))))))) (B + 24) (.inl (0, 768, .inl (upd (fA M B 24) (128 * v + n) ((pl)))))) (B + 25) (.inl (0, 768, .inl (upd (fA M B 25) (128 * v + n) ((nI (l.length))))))) (B + 26) (.inl (0, 768, .inl (upd (fA M B 26) (128 * v + n) ((nI (p))))))) (B + 27) (.inl (0, 768, .inl (upd (fA M B 27) (128 * v + n) ((nI (h + 1))))))) (B + 28) (.inl (0, 768, .inl (upd (fA M B 28) (128 * v + n) ((bn_int (lf l) 64)))))) (B + 29) (.inl (0, 768, .inl (upd (fA M B 29) (128 * v + n) ((bn_int (lf l) 68)))))) B 24 = upd (fA M B 24) (128 * v + n) ((pl)) := fA_of (hz_mne (hz_mne (hz_mne (hz_mne (hz_mne (va_up_self _ _ _) (by omega)) (by omega)) (by omega)) (by omega)) (by omega))
  have p25 : fA (va_up (va_up (va_up (va_up (va_up (va_up (va_up M (B + 20) (.inl (0, 6, .inl (upd (fA M B 20) v ((nI (n + 1))))))) (B + 24) (.inl (0, 768, .inl (upd (fA M B 24) (128 * v + n) ((pl)))))) (B + 25) (.inl (0, 768, .inl (upd (fA M B 25) (128 * v + n) ((nI (l.length))))))) (B + 26) (.inl (0, 768, .inl (upd (fA M B 26) (128 * v + n) ((nI (p))))))) (B + 27) (.inl (0, 768, .inl (upd (fA M B 27) (128 * v + n) ((nI (h + 1))))))) (B + 28) (.inl (0, 768, .inl (upd (fA M B 28) (128 * v + n) ((bn_int (lf l) 64)))))) (B + 29) (.inl (0, 768, .inl (upd (fA M B 29) (128 * v + n) ((bn_int (lf l) 68)))))) B 25 = upd (fA M B 25) (128 * v + n) ((nI (l.length))) := fA_of (hz_mne (hz_mne (hz_mne (hz_mne (va_up_self _ _ _) (by omega)) (by omega)) (by omega)) (by omega))
  have p26 : fA (va_up (va_up (va_up (va_up (va_up (va_up (va_up M (B + 20) (.inl (0, 6, .inl (upd (fA M B 20) v ((nI (n + 1))))))) (B + 24) (.inl (0, 768, .inl (upd (fA M B 24) (128 * v + n) ((pl)))))) (B + 25) (.inl (0, 768, .inl (upd (fA M B 25) (128 * v + n) ((nI (l.length))))))) (B + 26) (.inl (0, 768, .inl (upd (fA M B 26) (128 * v + n) ((nI (p))))))) (B + 27) (.inl (0, 768, .inl (upd (fA M B 27) (128 * v + n) ((nI (h + 1))))))) (B + 28) (.inl (0, 768, .inl (upd (fA M B 28) (128 * v + n) ((bn_int (lf l) 64)))))) (B + 29) (.inl (0, 768, .inl (upd (fA M B 29) (128 * v + n) ((bn_int (lf l) 68)))))) B 26 = upd (fA M B 26) (128 * v + n) ((nI (p))) := fA_of (hz_mne (hz_mne (hz_mne (va_up_self _ _ _) (by omega)) (by omega)) (by omega))
  have p27 : fA (va_up (va_up (va_up (va_up (va_up (va_up (va_up M (B + 20) (.inl (0, 6, .inl (upd (fA M B 20) v ((nI (n + 1))))))) (B + 24) (.inl (0, 768, .inl (upd (fA M B 24) (128 * v + n) ((pl)))))) (B + 25) (.inl (0, 768, .inl (upd (fA M B 25) (128 * v + n) ((nI (l.length))))))) (B + 26) (.inl (0, 768, .inl (upd (fA M B 26) (128 * v + n) ((nI (p))))))) (B + 27) (.inl (0, 768, .inl (upd (fA M B 27) (128 * v + n) ((nI (h + 1))))))) (B + 28) (.inl (0, 768, .inl (upd (fA M B 28) (128 * v + n) ((bn_int (lf l) 64)))))) (B + 29) (.inl (0, 768, .inl (upd (fA M B 29) (128 * v + n) ((bn_int (lf l) 68)))))) B 27 = upd (fA M B 27) (128 * v + n) ((nI (h + 1))) := fA_of (hz_mne (hz_mne (va_up_self _ _ _) (by omega)) (by omega))
  have p28 : fA (va_up (va_up (va_up (va_up (va_up (va_up (va_up M (B + 20) (.inl (0, 6, .inl (upd (fA M B 20) v ((nI (n + 1))))))) (B + 24) (.inl (0, 768, .inl (upd (fA M B 24) (128 * v + n) ((pl)))))) (B + 25) (.inl (0, 768, .inl (upd (fA M B 25) (128 * v + n) ((nI (l.length))))))) (B + 26) (.inl (0, 768, .inl (upd (fA M B 26) (128 * v + n) ((nI (p))))))) (B + 27) (.inl (0, 768, .inl (upd (fA M B 27) (128 * v + n) ((nI (h + 1))))))) (B + 28) (.inl (0, 768, .inl (upd (fA M B 28) (128 * v + n) ((bn_int (lf l) 64)))))) (B + 29) (.inl (0, 768, .inl (upd (fA M B 29) (128 * v + n) ((bn_int (lf l) 68)))))) B 28 = upd (fA M B 28) (128 * v + n) ((bn_int (lf l) 64)) := fA_of (hz_mne (va_up_self _ _ _) (by omega))
  have p29 : fA (va_up (va_up (va_up (va_up (va_up (va_up (va_up M (B + 20) (.inl (0, 6, .inl (upd (fA M B 20) v ((nI (n + 1))))))) (B + 24) (.inl (0, 768, .inl (upd (fA M B 24) (128 * v + n) ((pl)))))) (B + 25) (.inl (0, 768, .inl (upd (fA M B 25) (128 * v + n) ((nI (l.length))))))) (B + 26) (.inl (0, 768, .inl (upd (fA M B 26) (128 * v + n) ((nI (p))))))) (B + 27) (.inl (0, 768, .inl (upd (fA M B 27) (128 * v + n) ((nI (h + 1))))))) (B + 28) (.inl (0, 768, .inl (upd (fA M B 28) (128 * v + n) ((bn_int (lf l) 64)))))) (B + 29) (.inl (0, 768, .inl (upd (fA M B 29) (128 * v + n) ((bn_int (lf l) 68)))))) B 29 = upd (fA M B 29) (128 * v + n) ((bn_int (lf l) 68)) := fA_of (va_up_self _ _ _)
  have e9 : ∀ o, ¬ o = 20 → ¬ o = 24 → ¬ o = 25 → ¬ o = 26 → ¬ o = 27 → ¬ o = 28 → ¬ o = 29 → (va_up (va_up (va_up (va_up (va_up (va_up (va_up M (B + 20) (.inl (0, 6, .inl (upd (fA M B 20) v ((nI (n + 1))))))) (B + 24) (.inl (0, 768, .inl (upd (fA M B 24) (128 * v + n) ((pl)))))) (B + 25) (.inl (0, 768, .inl (upd (fA M B 25) (128 * v + n) ((nI (l.length))))))) (B + 26) (.inl (0, 768, .inl (upd (fA M B 26) (128 * v + n) ((nI (p))))))) (B + 27) (.inl (0, 768, .inl (upd (fA M B 27) (128 * v + n) ((nI (h + 1))))))) (B + 28) (.inl (0, 768, .inl (upd (fA M B 28) (128 * v + n) ((bn_int (lf l) 64)))))) (B + 29) (.inl (0, 768, .inl (upd (fA M B 29) (128 * v + n) ((bn_int (lf l) 68)))))) (B + o) = M (B + o) := fun o n20 n24 n25 n26 n27 n28 n29 => (hz_mne (hz_mne (hz_mne (hz_mne (hz_mne (hz_mne (hz_mne rfl (by omega)) (by omega)) (by omega)) (by omega)) (by omega)) (by omega)) (by omega))
  generalize hM1 : (va_up (va_up (va_up (va_up (va_up (va_up (va_up M (B + 20) (.inl (0, 6, .inl (upd (fA M B 20) v ((nI (n + 1))))))) (B + 24) (.inl (0, 768, .inl (upd (fA M B 24) (128 * v + n) ((pl)))))) (B + 25) (.inl (0, 768, .inl (upd (fA M B 25) (128 * v + n) ((nI (l.length))))))) (B + 26) (.inl (0, 768, .inl (upd (fA M B 26) (128 * v + n) ((nI (p))))))) (B + 27) (.inl (0, 768, .inl (upd (fA M B 27) (128 * v + n) ((nI (h + 1))))))) (B + 28) (.inl (0, 768, .inl (upd (fA M B 28) (128 * v + n) ((bn_int (lf l) 64)))))) (B + 29) (.inl (0, 768, .inl (upd (fA M B 29) (128 * v + n) ((bn_int (lf l) 68)))))) = M1 at *
  have hk1 : md_k B M1 z := hk0.mf hm1 rfl rfl
  obtain ⟨fs1, hO1, hF1⟩ := id hm1.2.1
  have e5 : fA M1 B 5 = fA M B 5 := fA_c (e9 5 (by decide) (by decide) (by decide) (by decide) (by decide) (by decide) (by decide))
  have e30 : fA M1 B 30 = fA M B 30 := fA_c (e9 30 (by decide) (by decide) (by decide) (by decide) (by decide) (by decide) (by decide))
  have e31 : fA M1 B 31 = fA M B 31 := fA_c (e9 31 (by decide) (by decide) (by decide) (by decide) (by decide) (by decide) (by decide))
  have e32 : fA M1 B 32 = fA M B 32 := fA_c (e9 32 (by decide) (by decide) (by decide) (by decide) (by decide) (by decide) (by decide))
  have e33 : fL M1 B 33 = fL M B 33 := fL_c (e9 33 (by decide) (by decide) (by decide) (by decide) (by decide) (by decide) (by decide))
  have e35 : fA M1 B 35 = fA M B 35 := fA_c (e9 35 (by decide) (by decide) (by decide) (by decide) (by decide) (by decide) (by decide))
  have e14 : fA M1 B 14 = fA M B 14 := fA_c (e9 14 (by decide) (by decide) (by decide) (by decide) (by decide) (by decide) (by decide))
  refine hz_bytes hE1.a5 (by omega) (by omega) (fun hby5 => ?_)
  refine hz_aloadn (pc := 112) 2 (hz_dec kX12_register 65 rfl) rfl ?_
  refine hz_aloadn (pc := 113) 2 (hz_dec kX12_register 66 rfl) rfl ?_
  refine hz_get (pc := 114) (v := .ref (B + 30)) (hz_dec kX12_register 67 rfl) fo_X12_101 hO1 h8 (by omega) (hF1.2 32 (by decide) (by decide)) ?_
  refine hz_bipush (pc := 117) (v := nI 32) (hz_dec kX12_register 68 rfl) (by decide) ?_
  refine hz_iload (pc := 119) 0 (hz_dec kX12_register 69 rfl) rfl ?_
  refine hz_mulN (pc := 121) (hz_dec kX12_register 70 rfl) ?_
  refine hz_callV (pc := 122) (a := B) (As := [.ref (B + 30), .int (nI (32 * (128 * v + n)))]) (st := []) (hz_dec kX12_register 71 rfl) co_X12_415 im_X12_keepDigest se_X12_keepDigest rfl hO1 h8 (by omega) (c_keepD (at_ := 32 * (128 * v + n)) hO1 hF1 h8 hz hE1.a5 hby5 hE1.a30 (by omega) (by omega) (by decide) (by omega) (by omega)) rfl (by decide) ⟨Nat.le_refl _, Nat.le_refl _⟩ (Nat.le_of_ble_eq_true rfl) rfl (fun r9 z9 M2 hp9 => ?_)
  obtain ⟨rfl, rfl, f30, hw1, hw2, hM2⟩ := hp9
  have hm2 : mfr B [] [30] M1 M2 := hM2 ▸ (mfr.rf ⟨fs1, hO1, hF1⟩).upA (o := 30) rfl (by decide)
  have hE2 : mdE M2 B := hM2 ▸ hE1.upA (by decide)
  have p30 : fA M2 B 30 = f30 := by rw [← hM2]; exact fA_of (va_up_self _ _ _)
  have hg2 : agV M1 M2 B v := by rw [← hM2]; exact agV.rf.upA (s := 4096) (by decide) (by decide) (fun x hx => hw2 x (by omega))
  refine hz_pick (pc := 125) [0, 2, 3, 4, 5, 1] rfl ?_
  have hk2 : md_k B M2 z := hk1.mf hm2 rfl rfl
  refine c_regB hk2 hE2 hv hn hW (by rw [fA_m hm2 (by decide) rfl, e35]; exact hA0) (by rw [fA_m hm2 (by decide) rfl, e14]; exact h140) ((hm2.2.2 16 rfl).trans ((hm1.2.2 16 rfl).trans h160)) hp hRt (by rw [fA_m hm2 (by decide) rfl, p29, upd_s]) (by rw [fA_m hm2 (by decide) rfl, e31]; exact hto) (fun M3 hm3 hE3 hg3 k32 k32o k31 k31o k33 k33o => ?_)
  have q1 : ∀ o, ¬ o = 0 → [30].elem o = false → [3, 4, 5, 10, 11, 12, 13, 31, 32, 33, 36].elem o = false → fA M3 B o = fA M1 B o := fun o h0 h1 h2 => (fA_m hm3 h0 h2).trans (fA_m hm2 h0 h1)
  refine ⟨rfl, rfl, (hm1.tr (hm2.mono rfl rfl)).tr (hm3.mono rfl rfl), hE3, (hg1.tr hg2).tr hg3, by rw [q1 20 (by decide) rfl rfl, p20, upd_s], by rw [q1 24 (by decide) rfl rfl, p24, upd_s], by rw [q1 25 (by decide) rfl rfl, p25, upd_s], by rw [q1 26 (by decide) rfl rfl, p26, upd_s], by rw [q1 27 (by decide) rfl rfl, p27, upd_s], by rw [q1 28 (by decide) rfl rfl, p28, upd_s], by rw [q1 29 (by decide) rfl rfl, p29, upd_s], ?_, by rw [k31, fA_m hm2 (by decide) rfl, e31], k32, k33, ?_, ?_, ?_, ?_⟩
  · rw [fA_m hm3 (by decide) rfl, p30]
    intro j hj
    rw [haS_len] at hj
    rw [hw1 j hj, e5, h50 j hj]
  · intro o9 ho x hx
    simp only [List.mem_cons, List.not_mem_nil, or_false] at ho
    rcases ho with rfl | rfl | rfl | rfl | rfl | rfl | rfl
    · rw [q1 24 (by decide) rfl rfl, p24, upd_o hx]
    · rw [q1 25 (by decide) rfl rfl, p25, upd_o hx]
    · rw [q1 26 (by decide) rfl rfl, p26, upd_o hx]
    · rw [q1 27 (by decide) rfl rfl, p27, upd_o hx]
    · rw [q1 28 (by decide) rfl rfl, p28, upd_o hx]
    · rw [q1 29 (by decide) rfl rfl, p29, upd_o hx]
    · rw [k32o x hx, fA_m hm2 (by decide) rfl, e32]
  · intro x hx
    rw [fA_m hm3 (by decide) rfl, p30, hw2 x hx, e30]
  · intro x hx
    rw [k31o x hx, fA_m hm2 (by decide) rfl, e31]
  · intro x hx
    rw [k33o x hx, fL_c (hm2.at 33 (by decide) rfl), e33]
set_option maxHeartbeats 4000000 in
set_option maxRecDepth 100000 in
theorem c_regF {κ : hz_C} {z : Nat} {M : hz_M} {B : Nat} (hk0 : md_k B M z) (hE0 : mdE M B) {v n : Nat} (hv : v < 6) (hn : n < 128) (h20 : fA M B 20 v = nI n) {l : by_L} (hW : blW l) (hA0 : isA (fA M B 35) 0 l) (h390 : fdB M B 39 = some (.int (nI l.length))) (h140 : ∀ j, j ≤ bkN l → fA M B 14 j = nI (bkS l j)) (h160 : fdB M B 16 = some (.int (nI (bkN l)))) (h50 : ∀ j, j < 32 → fA M B 5 j = lf (haS l) j) {pl : Int32} (hRt : tgR (bn_int (lf l) 68) = true) (hto : 0 + wkN (bn_int (lf l) 68) < 4294967296 ^ 9) : hz_Mt κ xX12_register 4 0 0 [.ref B, .int (nI v), .int pl, .int (-1)] z M (fun r z2 M2 => none = r ∧ z = z2 ∧ mfr B [] [3, 4, 5, 10, 11, 12, 13, 20, 24, 25, 26, 27, 28, 29, 30, 31, 32, 33, 36] M M2 ∧ mdE M2 B ∧ agV M M2 B v ∧ rgX M M2 B v n l pl (-1) 0 (0 + wkN (bn_int (lf l) 68))) := by
  refine hz_ent (lo := [(0, .ref B), (1, .int (nI v)), (2, .int pl), (3, .int (-1))]) (by decide) (Nat.le_of_ble_eq_true rfl) rfl ?_
  obtain ⟨⟨fs, hO, hF⟩, -, -, h8, hz⟩ := id hk0
  have g39 : fs[39]? = some (.int (nI l.length)) := (fdB_of hO 39).symm.trans h390
  have hln9 := hW.len
  refine hz_aloadn (pc := 0) 0 (hz_dec kX12_register 0 rfl) rfl ?_
  refine hz_get (pc := 1) (v := .ref (B + 20)) (hz_dec kX12_register 1 rfl) fo_X12_71 hO h8 (by omega) (hF.2 22 (by decide) (by decide)) ?_
  refine hz_iloadn (pc := 4) 1 (hz_dec kX12_register 2 rfl) rfl ?_
  refine hz_iald (pc := 5) (j := v) (hz_dec kX12_register 3 rfl) hE0.a20 (by omega) (by omega) rfl (by omega) (by decide) ?_
  refine hz_eqi (pc := 6) h20 ?_
  refine hz_istore (pc := 6) (i := 4) (lo2 := [(4, .int (nI n)), (0, .ref B), (1, .int (nI v)), (2, .int pl), (3, .int (-1))]) (hz_dec kX12_register 4 rfl) (by decide) rfl ?_
  refine hz_iloadn (pc := 8) 2 (hz_dec kX12_register 5 rfl) rfl ?_
  refine hz_iload (pc := 9) 0 (hz_dec kX12_register 6 rfl) rfl ?_
  refine hz_xS (pc := 11) (As := [.int (nI v), .int (nI n)]) (st := []) (hz_dec kX12_register 7 rfl) co_X12_419 sc_X12_at0 (c_at0) rfl (by decide) ⟨Nat.le_refl _, Nat.le_refl _⟩ (Nat.le_of_ble_eq_true rfl) rfl ?_
  refine hz_istore (pc := 14) (i := 5) (lo2 := [(5, .int (nI (128 * v + n))), (4, .int (nI n)), (0, .ref B), (1, .int (nI v)), (2, .int pl), (3, .int (-1))]) (hz_dec kX12_register 8 rfl) (by decide) rfl ?_
  refine hz_aloadn (pc := 16) 2 (hz_dec kX12_register 9 rfl) rfl ?_
  refine hz_get (pc := 17) (v := .ref (B + 20)) (hz_dec kX12_register 10 rfl) fo_X12_71 hO h8 (by omega) (hF.2 22 (by decide) (by decide)) ?_
  refine hz_iloadn (pc := 20) 3 (hz_dec kX12_register 11 rfl) rfl ?_
  refine hz_dup2 (pc := 21) (hz_dec kX12_register 12 rfl) rfl rfl ?_
  refine hz_iald (pc := 22) (j := v) (hz_dec kX12_register 13 rfl) hE0.a20 (by omega) (by omega) rfl (by omega) (by decide) ?_
  refine hz_eqi (pc := 23) h20 ?_
  refine hz_iconst (pc := 23) (v := nI 1) (hz_dec kX12_register 14 rfl) (by decide) ?_
  refine hz_addN (pc := 24) (hz_dec kX12_register 15 rfl) ?_
  refine hz_iast (pc := 25) (j := v) (hz_dec kX12_register 16 rfl) hE0.a20 (by omega) (by omega) rfl (by omega) (by decide) ?_
  refine hz_aloadn (pc := 26) 2 (hz_dec kX12_register 17 rfl) rfl ?_
  refine hz_get (pc := 27) (v := .ref (B + 24)) (hz_dec kX12_register 18 rfl) fo_X12_83 (hz_mne hO (by omega)) h8 (by omega) (hF.2 26 (by decide) (by decide)) ?_
  refine hz_iload (pc := 30) 0 (hz_dec kX12_register 19 rfl) rfl ?_
  refine hz_iloadn (pc := 32) 4 (hz_dec kX12_register 20 rfl) rfl ?_
  refine hz_iast (pc := 33) (j := 128 * v + n) (hz_dec kX12_register 21 rfl) (hz_mne hE0.a24 (by omega)) (by omega) (by omega) rfl (by omega) (by decide) ?_
  refine hz_aloadn (pc := 34) 2 (hz_dec kX12_register 22 rfl) rfl ?_
  refine hz_get (pc := 35) (v := .ref (B + 25)) (hz_dec kX12_register 23 rfl) fo_X12_86 (hz_mne (hz_mne hO (by omega)) (by omega)) h8 (by omega) (hF.2 27 (by decide) (by decide)) ?_
  refine hz_iload (pc := 38) 0 (hz_dec kX12_register 24 rfl) rfl ?_
  refine hz_aloadn (pc := 40) 2 (hz_dec kX12_register 25 rfl) rfl ?_
  refine hz_get (pc := 41) (v := .int (nI (l.length))) (hz_dec kX12_register 26 rfl) fo_X12_422 (hz_mne (hz_mne hO (by omega)) (by omega)) h8 (by omega) g39 ?_
  refine hz_iast (pc := 44) (j := 128 * v + n) (hz_dec kX12_register 27 rfl) (hz_mne (hz_mne hE0.a25 (by omega)) (by omega)) (by omega) (by omega) rfl (by omega) (by decide) ?_
  refine hz_aloadn (pc := 45) 2 (hz_dec kX12_register 28 rfl) rfl ?_
  refine hz_get (pc := 46) (v := .ref (B + 26)) (hz_dec kX12_register 29 rfl) fo_X12_89 (hz_mne (hz_mne (hz_mne hO (by omega)) (by omega)) (by omega)) h8 (by omega) (hF.2 28 (by decide) (by decide)) ?_
  refine hz_iload (pc := 49) 0 (hz_dec kX12_register 30 rfl) rfl ?_
  refine hz_iloadn (pc := 51) 5 (hz_dec kX12_register 31 rfl) rfl ?_
  refine hz_iast (pc := 52) (j := 128 * v + n) (hz_dec kX12_register 32 rfl) (hz_mne (hz_mne (hz_mne hE0.a26 (by omega)) (by omega)) (by omega)) (by omega) (by omega) rfl (by omega) (by decide) ?_
  refine hz_aloadn (pc := 53) 2 (hz_dec kX12_register 33 rfl) rfl ?_
  refine hz_get (pc := 54) (v := .ref (B + 27)) (hz_dec kX12_register 34 rfl) fo_X12_92 (hz_mne (hz_mne (hz_mne (hz_mne hO (by omega)) (by omega)) (by omega)) (by omega)) h8 (by omega) (hF.2 29 (by decide) (by decide)) ?_
  refine hz_iload (pc := 57) 0 (hz_dec kX12_register 35 rfl) rfl ?_
  refine hz_iloadn (pc := 59) 5 (hz_dec kX12_register 36 rfl) rfl ?_
  refine hz_if_ge (pc := 60) (tgt := 67) (hz_dec kX12_register 37 rfl) (by decide) (fun h3 => ?_) (fun h3 => ?_)
  · skip
    exact absurd h3 (by decide)
  · skip
    refine hz_iconst (pc := 63) (v := nI 0) (hz_dec kX12_register 38 rfl) (by decide) ?_
    refine hz_goto (pc := 64) (tgt := 79) (hz_dec kX12_register 39 rfl) (by decide) ?_
    refine hz_iast (pc := 79) (j := 128 * v + n) (hz_dec kX12_register 48 rfl) (hz_mne (hz_mne (hz_mne (hz_mne hE0.a27 (by omega)) (by omega)) (by omega)) (by omega)) (by omega) (by omega) rfl (by omega) (by decide) ?_
    refine hz_aloadn (pc := 80) 2 (hz_dec kX12_register 49 rfl) rfl ?_
    refine hz_get (pc := 81) (v := .ref (B + 28)) (hz_dec kX12_register 50 rfl) fo_X12_95 (hz_mne (hz_mne (hz_mne (hz_mne (hz_mne hO (by omega)) (by omega)) (by omega)) (by omega)) (by omega)) h8 (by omega) (hF.2 30 (by decide) (by decide)) ?_
    refine hz_iload (pc := 84) 0 (hz_dec kX12_register 51 rfl) rfl ?_
    refine hz_aloadn (pc := 86) 2 (hz_dec kX12_register 52 rfl) rfl ?_
    refine hz_get (pc := 87) (v := .ref (B + 35)) (hz_dec kX12_register 53 rfl) fo_X12_116 (hz_mne (hz_mne (hz_mne (hz_mne (hz_mne hO (by omega)) (by omega)) (by omega)) (by omega)) (by omega)) h8 (by omega) (hF.2 38 (by decide) (by decide)) ?_
    refine hz_bipush (pc := 90) (v := nI 64) (hz_dec kX12_register 54 rfl) (by decide) ?_
    refine hz_xS (pc := 92) (As := [.ref (B + 35), .int (nI 64)]) (st := [.int (nI (128 * v + n)), .ref (B + 28)]) (hz_dec kX12_register 55 rfl) co_X12_376 sc_X12_intAt (c_intAt (hz_mne (hz_mne (hz_mne (hz_mne (hz_mne hE0.a35 (by omega)) (by omega)) (by omega)) (by omega)) (by omega)) (by omega) (by omega) (by decide) (by decide)) rfl (by decide) ⟨Nat.le_refl _, Nat.le_refl _⟩ (Nat.le_of_ble_eq_true rfl) rfl ?_
    refine hz_eqi (pc := 95) (show _ = bn_int (lf l) 64 by have q := int_of hA0 (i := 64) (by omega); rw [Nat.zero_add] at q; exact q) ?_
    refine hz_iast (pc := 95) (j := 128 * v + n) (hz_dec kX12_register 56 rfl) (hz_mne (hz_mne (hz_mne (hz_mne (hz_mne hE0.a28 (by omega)) (by omega)) (by omega)) (by omega)) (by omega)) (by omega) (by omega) rfl (by omega) (by decide) ?_
    refine hz_aloadn (pc := 96) 2 (hz_dec kX12_register 57 rfl) rfl ?_
    refine hz_get (pc := 97) (v := .ref (B + 29)) (hz_dec kX12_register 58 rfl) fo_X12_98 (hz_mne (hz_mne (hz_mne (hz_mne (hz_mne (hz_mne hO (by omega)) (by omega)) (by omega)) (by omega)) (by omega)) (by omega)) h8 (by omega) (hF.2 31 (by decide) (by decide)) ?_
    refine hz_iload (pc := 100) 0 (hz_dec kX12_register 59 rfl) rfl ?_
    refine hz_aloadn (pc := 102) 2 (hz_dec kX12_register 60 rfl) rfl ?_
    refine hz_get (pc := 103) (v := .ref (B + 35)) (hz_dec kX12_register 61 rfl) fo_X12_116 (hz_mne (hz_mne (hz_mne (hz_mne (hz_mne (hz_mne hO (by omega)) (by omega)) (by omega)) (by omega)) (by omega)) (by omega)) h8 (by omega) (hF.2 38 (by decide) (by decide)) ?_
    refine hz_bipush (pc := 106) (v := nI 68) (hz_dec kX12_register 62 rfl) (by decide) ?_
    refine hz_xS (pc := 108) (As := [.ref (B + 35), .int (nI 68)]) (st := [.int (nI (128 * v + n)), .ref (B + 29)]) (hz_dec kX12_register 63 rfl) co_X12_376 sc_X12_intAt (c_intAt (hz_mne (hz_mne (hz_mne (hz_mne (hz_mne (hz_mne hE0.a35 (by omega)) (by omega)) (by omega)) (by omega)) (by omega)) (by omega)) (by omega) (by omega) (by decide) (by decide)) rfl (by decide) ⟨Nat.le_refl _, Nat.le_refl _⟩ (Nat.le_of_ble_eq_true rfl) rfl ?_
    refine hz_eqi (pc := 111) (show _ = bn_int (lf l) 68 by have q := int_of hA0 (i := 68) (by omega); rw [Nat.zero_add] at q; exact q) ?_
    refine hz_iast (pc := 111) (j := 128 * v + n) (hz_dec kX12_register 64 rfl) (hz_mne (hz_mne (hz_mne (hz_mne (hz_mne (hz_mne hE0.a29 (by omega)) (by omega)) (by omega)) (by omega)) (by omega)) (by omega)) (by omega) (by omega) rfl (by omega) (by decide) ?_
    have hm1 : mfr B [] [3, 4, 5, 10, 11, 12, 13, 20, 24, 25, 26, 27, 28, 29, 30, 31, 32, 33, 36] M (va_up (va_up (va_up (va_up (va_up (va_up (va_up M (B + 20) (.inl (0, 6, .inl (upd (fA M B 20) v ((nI (n + 1))))))) (B + 24) (.inl (0, 768, .inl (upd (fA M B 24) (128 * v + n) ((pl)))))) (B + 25) (.inl (0, 768, .inl (upd (fA M B 25) (128 * v + n) ((nI (l.length))))))) (B + 26) (.inl (0, 768, .inl (upd (fA M B 26) (128 * v + n) (((-1))))))) (B + 27) (.inl (0, 768, .inl (upd (fA M B 27) (128 * v + n) ((nI (0))))))) (B + 28) (.inl (0, 768, .inl (upd (fA M B 28) (128 * v + n) ((bn_int (lf l) 64)))))) (B + 29) (.inl (0, 768, .inl (upd (fA M B 29) (128 * v + n) ((bn_int (lf l) 68)))))) := ((((((((mfr.rf ⟨fs, hO, hF⟩).upA (o := 20) rfl (by decide)).upA (o := 24) rfl (by decide)).upA (o := 25) rfl (by decide)).upA (o := 26) rfl (by decide)).upA (o := 27) rfl (by decide)).upA (o := 28) rfl (by decide)).upA (o := 29) rfl (by decide))
    have hE1 : mdE (va_up (va_up (va_up (va_up (va_up (va_up (va_up M (B + 20) (.inl (0, 6, .inl (upd (fA M B 20) v ((nI (n + 1))))))) (B + 24) (.inl (0, 768, .inl (upd (fA M B 24) (128 * v + n) ((pl)))))) (B + 25) (.inl (0, 768, .inl (upd (fA M B 25) (128 * v + n) ((nI (l.length))))))) (B + 26) (.inl (0, 768, .inl (upd (fA M B 26) (128 * v + n) (((-1))))))) (B + 27) (.inl (0, 768, .inl (upd (fA M B 27) (128 * v + n) ((nI (0))))))) (B + 28) (.inl (0, 768, .inl (upd (fA M B 28) (128 * v + n) ((bn_int (lf l) 64)))))) (B + 29) (.inl (0, 768, .inl (upd (fA M B 29) (128 * v + n) ((bn_int (lf l) 68)))))) B := (((((((hE0.upA (by decide)).upA (by decide)).upA (by decide)).upA (by decide)).upA (by decide)).upA (by decide)).upA (by decide))
    have hg1 : agV M (va_up (va_up (va_up (va_up (va_up (va_up (va_up M (B + 20) (.inl (0, 6, .inl (upd (fA M B 20) v ((nI (n + 1))))))) (B + 24) (.inl (0, 768, .inl (upd (fA M B 24) (128 * v + n) ((pl)))))) (B + 25) (.inl (0, 768, .inl (upd (fA M B 25) (128 * v + n) ((nI (l.length))))))) (B + 26) (.inl (0, 768, .inl (upd (fA M B 26) (128 * v + n) (((-1))))))) (B + 27) (.inl (0, 768, .inl (upd (fA M B 27) (128 * v + n) ((nI (0))))))) (B + 28) (.inl (0, 768, .inl (upd (fA M B 28) (128 * v + n) ((bn_int (lf l) 64)))))) (B + 29) (.inl (0, 768, .inl (upd (fA M B 29) (128 * v + n) ((bn_int (lf l) 68)))))) B v := (((((((agV.rf.upA (s := 1) (by decide) (by decide) (fun x hx => (upd_o (by omega)))).upA (s := 128) (by decide) (by decide) (fun x hx => (upd_o (by omega)).trans (by rw [fA_c (hz_mne rfl (by omega))]))).upA (s := 128) (by decide) (by decide) (fun x hx => (upd_o (by omega)).trans (by rw [fA_c (hz_mne (hz_mne rfl (by omega)) (by omega))]))).upA (s := 128) (by decide) (by decide) (fun x hx => (upd_o (by omega)).trans (by rw [fA_c (hz_mne (hz_mne (hz_mne rfl (by omega)) (by omega)) (by omega))]))).upA (s := 128) (by decide) (by decide) (fun x hx => (upd_o (by omega)).trans (by rw [fA_c (hz_mne (hz_mne (hz_mne (hz_mne rfl (by omega)) (by omega)) (by omega)) (by omega))]))).upA (s := 128) (by decide) (by decide) (fun x hx => (upd_o (by omega)).trans (by rw [fA_c (hz_mne (hz_mne (hz_mne (hz_mne (hz_mne rfl (by omega)) (by omega)) (by omega)) (by omega)) (by omega))]))).upA (s := 128) (by decide) (by decide) (fun x hx => (upd_o (by omega)).trans (by rw [fA_c (hz_mne (hz_mne (hz_mne (hz_mne (hz_mne (hz_mne rfl (by omega)) (by omega)) (by omega)) (by omega)) (by omega)) (by omega))])))
    have p20 : fA (va_up (va_up (va_up (va_up (va_up (va_up (va_up M (B + 20) (.inl (0, 6, .inl (upd (fA M B 20) v ((nI (n + 1))))))) (B + 24) (.inl (0, 768, .inl (upd (fA M B 24) (128 * v + n) ((pl)))))) (B + 25) (.inl (0, 768, .inl (upd (fA M B 25) (128 * v + n) ((nI (l.length))))))) (B + 26) (.inl (0, 768, .inl (upd (fA M B 26) (128 * v + n) (((-1))))))) (B + 27) (.inl (0, 768, .inl (upd (fA M B 27) (128 * v + n) ((nI (0))))))) (B + 28) (.inl (0, 768, .inl (upd (fA M B 28) (128 * v + n) ((bn_int (lf l) 64)))))) (B + 29) (.inl (0, 768, .inl (upd (fA M B 29) (128 * v + n) ((bn_int (lf l) 68)))))) B 20 = upd (fA M B 20) v ((nI (n + 1))) := fA_of (hz_mne (hz_mne (hz_mne (hz_mne (hz_mne (hz_mne (va_up_self _ _ _) (by omega)) (by omega)) (by omega)) (by omega)) (by omega)) (by omega))
    have p24 : fA (va_up (va_up (va_up (va_up (va_up (va_up (va_up M (B + 20) (.inl (0, 6, .inl (upd (fA M B 20) v ((nI (n + 1))))))) (B + 24) (.inl (0, 768, .inl (upd (fA M B 24) (128 * v + n) ((pl)))))) (B + 25) (.inl (0, 768, .inl (upd (fA M B 25) (128 * v + n) ((nI (l.length))))))) (B + 26) (.inl (0, 768, .inl (upd (fA M B 26) (128 * v + n) (((-1))))))) (B + 27) (.inl (0, 768, .inl (upd (fA M B 27) (128 * v + n) ((nI (0))))))) (B + 28) (.inl (0, 768, .inl (upd (fA M B 28) (128 * v + n) ((bn_int (lf l) 64)))))) (B + 29) (.inl (0, 768, .inl (upd (fA M B 29) (128 * v + n) ((bn_int (lf l) 68)))))) B 24 = upd (fA M B 24) (128 * v + n) ((pl)) := fA_of (hz_mne (hz_mne (hz_mne (hz_mne (hz_mne (va_up_self _ _ _) (by omega)) (by omega)) (by omega)) (by omega)) (by omega))
    have p25 : fA (va_up (va_up (va_up (va_up (va_up (va_up (va_up M (B + 20) (.inl (0, 6, .inl (upd (fA M B 20) v ((nI (n + 1))))))) (B + 24) (.inl (0, 768, .inl (upd (fA M B 24) (128 * v + n) ((pl)))))) (B + 25) (.inl (0, 768, .inl (upd (fA M B 25) (128 * v + n) ((nI (l.length))))))) (B + 26) (.inl (0, 768, .inl (upd (fA M B 26) (128 * v + n) (((-1))))))) (B + 27) (.inl (0, 768, .inl (upd (fA M B 27) (128 * v + n) ((nI (0))))))) (B + 28) (.inl (0, 768, .inl (upd (fA M B 28) (128 * v + n) ((bn_int (lf l) 64)))))) (B + 29) (.inl (0, 768, .inl (upd (fA M B 29) (128 * v + n) ((bn_int (lf l) 68)))))) B 25 = upd (fA M B 25) (128 * v + n) ((nI (l.length))) := fA_of (hz_mne (hz_mne (hz_mne (hz_mne (va_up_self _ _ _) (by omega)) (by omega)) (by omega)) (by omega))
    have p26 : fA (va_up (va_up (va_up (va_up (va_up (va_up (va_up M (B + 20) (.inl (0, 6, .inl (upd (fA M B 20) v ((nI (n + 1))))))) (B + 24) (.inl (0, 768, .inl (upd (fA M B 24) (128 * v + n) ((pl)))))) (B + 25) (.inl (0, 768, .inl (upd (fA M B 25) (128 * v + n) ((nI (l.length))))))) (B + 26) (.inl (0, 768, .inl (upd (fA M B 26) (128 * v + n) (((-1))))))) (B + 27) (.inl (0, 768, .inl (upd (fA M B 27) (128 * v + n) ((nI (0))))))) (B + 28) (.inl (0, 768, .inl (upd (fA M B 28) (128 * v + n) ((bn_int (lf l) 64)))))) (B + 29) (.inl (0, 768, .inl (upd (fA M B 29) (128 * v + n) ((bn_int (lf l) 68)))))) B 26 = upd (fA M B 26) (128 * v + n) (((-1))) := fA_of (hz_mne (hz_mne (hz_mne (va_up_self _ _ _) (by omega)) (by omega)) (by omega))
    have p27 : fA (va_up (va_up (va_up (va_up (va_up (va_up (va_up M (B + 20) (.inl (0, 6, .inl (upd (fA M B 20) v ((nI (n + 1))))))) (B + 24) (.inl (0, 768, .inl (upd (fA M B 24) (128 * v + n) ((pl)))))) (B + 25) (.inl (0, 768, .inl (upd (fA M B 25) (128 * v + n) ((nI (l.length))))))) (B + 26) (.inl (0, 768, .inl (upd (fA M B 26) (128 * v + n) (((-1))))))) (B + 27) (.inl (0, 768, .inl (upd (fA M B 27) (128 * v + n) ((nI (0))))))) (B + 28) (.inl (0, 768, .inl (upd (fA M B 28) (128 * v + n) ((bn_int (lf l) 64)))))) (B + 29) (.inl (0, 768, .inl (upd (fA M B 29) (128 * v + n) ((bn_int (lf l) 68)))))) B 27 = upd (fA M B 27) (128 * v + n) ((nI (0))) := fA_of (hz_mne (hz_mne (va_up_self _ _ _) (by omega)) (by omega))
    have p28 : fA (va_up (va_up (va_up (va_up (va_up (va_up (va_up M (B + 20) (.inl (0, 6, .inl (upd (fA M B 20) v ((nI (n + 1))))))) (B + 24) (.inl (0, 768, .inl (upd (fA M B 24) (128 * v + n) ((pl)))))) (B + 25) (.inl (0, 768, .inl (upd (fA M B 25) (128 * v + n) ((nI (l.length))))))) (B + 26) (.inl (0, 768, .inl (upd (fA M B 26) (128 * v + n) (((-1))))))) (B + 27) (.inl (0, 768, .inl (upd (fA M B 27) (128 * v + n) ((nI (0))))))) (B + 28) (.inl (0, 768, .inl (upd (fA M B 28) (128 * v + n) ((bn_int (lf l) 64)))))) (B + 29) (.inl (0, 768, .inl (upd (fA M B 29) (128 * v + n) ((bn_int (lf l) 68)))))) B 28 = upd (fA M B 28) (128 * v + n) ((bn_int (lf l) 64)) := fA_of (hz_mne (va_up_self _ _ _) (by omega))
    have p29 : fA (va_up (va_up (va_up (va_up (va_up (va_up (va_up M (B + 20) (.inl (0, 6, .inl (upd (fA M B 20) v ((nI (n + 1))))))) (B + 24) (.inl (0, 768, .inl (upd (fA M B 24) (128 * v + n) ((pl)))))) (B + 25) (.inl (0, 768, .inl (upd (fA M B 25) (128 * v + n) ((nI (l.length))))))) (B + 26) (.inl (0, 768, .inl (upd (fA M B 26) (128 * v + n) (((-1))))))) (B + 27) (.inl (0, 768, .inl (upd (fA M B 27) (128 * v + n) ((nI (0))))))) (B + 28) (.inl (0, 768, .inl (upd (fA M B 28) (128 * v + n) ((bn_int (lf l) 64)))))) (B + 29) (.inl (0, 768, .inl (upd (fA M B 29) (128 * v + n) ((bn_int (lf l) 68)))))) B 29 = upd (fA M B 29) (128 * v + n) ((bn_int (lf l) 68)) := fA_of (va_up_self _ _ _)
    have e9 : ∀ o, ¬ o = 20 → ¬ o = 24 → ¬ o = 25 → ¬ o = 26 → ¬ o = 27 → ¬ o = 28 → ¬ o = 29 → (va_up (va_up (va_up (va_up (va_up (va_up (va_up M (B + 20) (.inl (0, 6, .inl (upd (fA M B 20) v ((nI (n + 1))))))) (B + 24) (.inl (0, 768, .inl (upd (fA M B 24) (128 * v + n) ((pl)))))) (B + 25) (.inl (0, 768, .inl (upd (fA M B 25) (128 * v + n) ((nI (l.length))))))) (B + 26) (.inl (0, 768, .inl (upd (fA M B 26) (128 * v + n) (((-1))))))) (B + 27) (.inl (0, 768, .inl (upd (fA M B 27) (128 * v + n) ((nI (0))))))) (B + 28) (.inl (0, 768, .inl (upd (fA M B 28) (128 * v + n) ((bn_int (lf l) 64)))))) (B + 29) (.inl (0, 768, .inl (upd (fA M B 29) (128 * v + n) ((bn_int (lf l) 68)))))) (B + o) = M (B + o) := fun o n20 n24 n25 n26 n27 n28 n29 => (hz_mne (hz_mne (hz_mne (hz_mne (hz_mne (hz_mne (hz_mne rfl (by omega)) (by omega)) (by omega)) (by omega)) (by omega)) (by omega)) (by omega))
    generalize hM1 : (va_up (va_up (va_up (va_up (va_up (va_up (va_up M (B + 20) (.inl (0, 6, .inl (upd (fA M B 20) v ((nI (n + 1))))))) (B + 24) (.inl (0, 768, .inl (upd (fA M B 24) (128 * v + n) ((pl)))))) (B + 25) (.inl (0, 768, .inl (upd (fA M B 25) (128 * v + n) ((nI (l.length))))))) (B + 26) (.inl (0, 768, .inl (upd (fA M B 26) (128 * v + n) (((-1))))))) (B + 27) (.inl (0, 768, .inl (upd (fA M B 27) (128 * v + n) ((nI (0))))))) (B + 28) (.inl (0, 768, .inl (upd (fA M B 28) (128 * v + n) ((bn_int (lf l) 64)))))) (B + 29) (.inl (0, 768, .inl (upd (fA M B 29) (128 * v + n) ((bn_int (lf l) 68)))))) = M1 at *
    have hk1 : md_k B M1 z := hk0.mf hm1 rfl rfl
    obtain ⟨fs1, hO1, hF1⟩ := id hm1.2.1
    have e5 : fA M1 B 5 = fA M B 5 := fA_c (e9 5 (by decide) (by decide) (by decide) (by decide) (by decide) (by decide) (by decide))
    have e30 : fA M1 B 30 = fA M B 30 := fA_c (e9 30 (by decide) (by decide) (by decide) (by decide) (by decide) (by decide) (by decide))
    have e31 : fA M1 B 31 = fA M B 31 := fA_c (e9 31 (by decide) (by decide) (by decide) (by decide) (by decide) (by decide) (by decide))
    have e32 : fA M1 B 32 = fA M B 32 := fA_c (e9 32 (by decide) (by decide) (by decide) (by decide) (by decide) (by decide) (by decide))
    have e33 : fL M1 B 33 = fL M B 33 := fL_c (e9 33 (by decide) (by decide) (by decide) (by decide) (by decide) (by decide) (by decide))
    have e35 : fA M1 B 35 = fA M B 35 := fA_c (e9 35 (by decide) (by decide) (by decide) (by decide) (by decide) (by decide) (by decide))
    have e14 : fA M1 B 14 = fA M B 14 := fA_c (e9 14 (by decide) (by decide) (by decide) (by decide) (by decide) (by decide) (by decide))
    refine hz_bytes hE1.a5 (by omega) (by omega) (fun hby5 => ?_)
    refine hz_aloadn (pc := 112) 2 (hz_dec kX12_register 65 rfl) rfl ?_
    refine hz_aloadn (pc := 113) 2 (hz_dec kX12_register 66 rfl) rfl ?_
    refine hz_get (pc := 114) (v := .ref (B + 30)) (hz_dec kX12_register 67 rfl) fo_X12_101 hO1 h8 (by omega) (hF1.2 32 (by decide) (by decide)) ?_
    refine hz_bipush (pc := 117) (v := nI 32) (hz_dec kX12_register 68 rfl) (by decide) ?_
    refine hz_iload (pc := 119) 0 (hz_dec kX12_register 69 rfl) rfl ?_
    refine hz_mulN (pc := 121) (hz_dec kX12_register 70 rfl) ?_
    refine hz_callV (pc := 122) (a := B) (As := [.ref (B + 30), .int (nI (32 * (128 * v + n)))]) (st := []) (hz_dec kX12_register 71 rfl) co_X12_415 im_X12_keepDigest se_X12_keepDigest rfl hO1 h8 (by omega) (c_keepD (at_ := 32 * (128 * v + n)) hO1 hF1 h8 hz hE1.a5 hby5 hE1.a30 (by omega) (by omega) (by decide) (by omega) (by omega)) rfl (by decide) ⟨Nat.le_refl _, Nat.le_refl _⟩ (Nat.le_of_ble_eq_true rfl) rfl (fun r9 z9 M2 hp9 => ?_)
    obtain ⟨rfl, rfl, f30, hw1, hw2, hM2⟩ := hp9
    have hm2 : mfr B [] [30] M1 M2 := hM2 ▸ (mfr.rf ⟨fs1, hO1, hF1⟩).upA (o := 30) rfl (by decide)
    have hE2 : mdE M2 B := hM2 ▸ hE1.upA (by decide)
    have p30 : fA M2 B 30 = f30 := by rw [← hM2]; exact fA_of (va_up_self _ _ _)
    have hg2 : agV M1 M2 B v := by rw [← hM2]; exact agV.rf.upA (s := 4096) (by decide) (by decide) (fun x hx => hw2 x (by omega))
    refine hz_pick (pc := 125) [0, 2, 3, 4, 5, 1] rfl ?_
    have hk2 : md_k B M2 z := hk1.mf hm2 rfl rfl
    refine c_regA hk2 hE2 hv hn hW (by rw [fA_m hm2 (by decide) rfl, e35]; exact hA0) (by rw [fA_m hm2 (by decide) rfl, e14]; exact h140) ((hm2.2.2 16 rfl).trans ((hm1.2.2 16 rfl).trans h160)) hRt (by rw [fA_m hm2 (by decide) rfl, p29, upd_s]) (hto) (fun M3 hm3 hE3 hg3 k32 k32o k31 k31o k33 k33o => ?_)
    have q1 : ∀ o, ¬ o = 0 → [30].elem o = false → [3, 4, 5, 10, 11, 12, 13, 31, 32, 33, 36].elem o = false → fA M3 B o = fA M1 B o := fun o h0 h1 h2 => (fA_m hm3 h0 h2).trans (fA_m hm2 h0 h1)
    refine ⟨rfl, rfl, (hm1.tr (hm2.mono rfl rfl)).tr (hm3.mono rfl rfl), hE3, (hg1.tr hg2).tr hg3, by rw [q1 20 (by decide) rfl rfl, p20, upd_s], by rw [q1 24 (by decide) rfl rfl, p24, upd_s], by rw [q1 25 (by decide) rfl rfl, p25, upd_s], by rw [q1 26 (by decide) rfl rfl, p26, upd_s], by rw [q1 27 (by decide) rfl rfl, p27, upd_s], by rw [q1 28 (by decide) rfl rfl, p28, upd_s], by rw [q1 29 (by decide) rfl rfl, p29, upd_s], ?_, k31, k32, k33, ?_, ?_, ?_, ?_⟩
    · rw [fA_m hm3 (by decide) rfl, p30]
      intro j hj
      rw [haS_len] at hj
      rw [hw1 j hj, e5, h50 j hj]
    · intro o9 ho x hx
      simp only [List.mem_cons, List.not_mem_nil, or_false] at ho
      rcases ho with rfl | rfl | rfl | rfl | rfl | rfl | rfl
      · rw [q1 24 (by decide) rfl rfl, p24, upd_o hx]
      · rw [q1 25 (by decide) rfl rfl, p25, upd_o hx]
      · rw [q1 26 (by decide) rfl rfl, p26, upd_o hx]
      · rw [q1 27 (by decide) rfl rfl, p27, upd_o hx]
      · rw [q1 28 (by decide) rfl rfl, p28, upd_o hx]
      · rw [q1 29 (by decide) rfl rfl, p29, upd_o hx]
      · rw [k32o x hx, fA_m hm2 (by decide) rfl, e32]
    · intro x hx
      rw [fA_m hm3 (by decide) rfl, p30, hw2 x hx, e30]
    · intro x hx
      rw [k31o x hx, fA_m hm2 (by decide) rfl, e31]
    · intro x hx
      rw [k33o x hx, fL_c (hm2.at 33 (by decide) rfl), e33]
theorem rgX.nb {M M2 : hz_M} {B v tip nx : Nat} {bl : List bk_B} {en : List en_E} {l : by_L} {pl pr : Int32} {h to : Nat} {pv : Option Nat} (hN : nbX (fA M B) (fL M B) v bl tip) (hr : rgX M M2 B v bl.length l pl pr h to) (hbx : blX bl) (hto : to = (bkO bl en l pv).2.2.2) (h21 : fA M2 B 21 v = fA M B 21 v) (h34 : fA M2 B 34 = fA M B 34) (h51 : fA M2 B 51 = fA M B 51) (hpl : (pl = -1 ∧ isA (fA M B 34) 0 l) ∨ ∃ p, pl = nI p ∧ p + 2 + l.length ≤ 12288 ∧ isA (fA M B 51) (12288 * v + p + 2) l) : nbX (fA M2 B) (fL M2 B) v (bl ++ [bkO bl en l pv]) tip := by
  obtain ⟨a20, a24, a25, a26, a27, a28, a29, a30, a31, a32, a33, o1, o30, o31, o33⟩ := hr
  have hl : (bl ++ [bkO bl en l pv]).length = bl.length + 1 := by rw [List.length_append]; rfl
  refine ⟨a20.trans (by rw [hl]), h21.trans hN.2.1, fun k hk => ?_⟩
  rw [hl] at hk
  rcases (show k = bl.length ∨ k < bl.length by omega) with e | c
  · have eb : bBy (bl ++ [bkO bl en l pv]) k = l := by unfold bBy; rw [e, bkL_last]; rfl
    have et : bTo (bl ++ [bkO bl en l pv]) k = to := by unfold bTo; rw [e, bkL_last]; exact hto.symm
    rw [eb, et, e, h34, h51, a24]
    exact ⟨a25, a30, a31, a32, a33, hpl⟩
  · have eb : bBy (bl ++ [bkO bl en l pv]) k = bBy bl k := by unfold bBy; rw [bkL_app c]
    have et : bTo (bl ++ [bkO bl en l pv]) k = bTo bl k := by unfold bTo; rw [bkL_app c]
    obtain ⟨b1, b2, b3, b4, b5, b6⟩ := hN.2.2 k c
    have hN8 := (hbx k c).f.2.2.2.2.1
    rw [eb, et, h34, h51, o1 25 (by decide) _ (by omega), o1 32 (by decide) _ (by omega), o1 24 (by decide) _ (by omega)]
    refine ⟨b1, isA_c b2 (fun j hj => o30 _ (by rw [haS_len] at hj; omega)), ?_, b4, fun j hj => ?_, b6⟩
    · rw [← b3]
      exact bg_c 9 (fun j hj => o31 _ (by omega))
    · rw [o33 _ (by omega)]
      exact b5 j hj
theorem rpI_st {nb : Nat} {p : Option Nat} (h : ∀ q, p = some q → q < nb) : rpI (nb + 1) p = rpI nb p := by
  cases p with
  | none => rfl
  | some q =>
    have hq := h q rfl
    show nI (rx (nb + 1) q) = nI (rx nb q)
    rw [rx_lt hq, rx_lt (by omega)]
theorem rgX.rv {M M2 : hz_M} {B v nb : Nat} {en : List en_E} {l : by_L} {pl : Int32} {h to : Nat} {pv : Option Nat} (hR : rvX (fA M B) v nb en) (he : en.length = nb) (hwf : wfE en) (hr : rgX M M2 B v nb l pl (pvI pv) h to) (hh : h = pvH en pv) (hpv : ∀ q, pv = some q → q < nb) : rvX (fA M2 B) v (nb + 1) (en ++ [enO en l pv]) := by
  obtain ⟨a20, a24, a25, a26, a27, a28, a29, a30, a31, a32, a33, o1, -⟩ := hr
  have hl : (en ++ [enO en l pv]).length = nb + 1 := by rw [List.length_append, he]; rfl
  intro y hy
  rw [hl] at hy
  refine ⟨fun hy2 => ?_, fun hy2 => absurd hy2 (by omega)⟩
  rcases (show y = nb ∨ y < nb by omega) with e | c
  · have el : enL (en ++ [enO en l pv]) y = enO en l pv := by rw [e, ← he]; exact enL_last
    unfold eP eH eT eB
    rw [el, e]
    refine ⟨a26.trans ?_, a27.trans (by rw [hh]; rfl), a28, a29⟩
    show pvI pv = rpI (nb + 1) pv
    rw [rpI_st hpv]
    cases pv with
    | none => rfl
    | some q => show nI q = nI (rx nb q); rw [rx_lt (hpv q rfl)]
  · have el : enL (en ++ [enO en l pv]) y = enL en y := enL_app (by omega)
    obtain ⟨b1, b2, b3, b4⟩ := (hR y (by omega)).1 c
    unfold eP eH eT eB
    rw [el, o1 26 (by decide) _ (by omega), o1 27 (by decide) _ (by omega), o1 28 (by decide) _ (by omega), o1 29 (by decide) _ (by omega)]
    refine ⟨?_, b2, b3, b4⟩
    rw [rpI_st (fun q hq => by have r := (hwf y (by omega)).1 q hq; omega)]
    exact b1
