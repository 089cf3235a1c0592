/-! makeFirst -/
theorem nz_nz {T : by_L} {x y : Int64} : nzT (nzT T x) y = nzT T y := by
  have hl : (nzT T x).length = T.length := nzT_len T x
  show cutL _ 0 (nzT T x).length = cutL _ 0 T.length
  rw [hl]
  refine cutL_c (fun j hj => ?_)
  by_cases c : 72 ≤ j ∧ j < 80
  · rw [if_pos c, if_pos c]
  · rw [if_neg c, if_neg c]
    exact nz_out hj c
/-- the FIRST block's nonce: the least that meets -/
def fiN : Nat := fsI (fun k => slW fi2 (lN k) (tgT 537919487)) 1000000
theorem fiN_at : slW fi2 (lN fiN) (tgT 537919487) = true ∧ (∀ j, j < fiN → slW fi2 (lN j) (tgT 537919487) = false) ∧ fiN < 1000000 := by
  have lt : fiN < 1000000 := by
    rcases Nat.lt_or_ge fiN 1000000 with c | c
    · exact c
    · exfalso
      have q : ∀ n, (∀ i, i < n → (fun k => slW fi2 (lN k) (tgT 537919487)) i = false) ∨ fsI (fun k => slW fi2 (lN k) (tgT 537919487)) n < n := by
        intro n
        induction n with
        | zero => exact Or.inl (fun i hi => absurd hi (Nat.not_lt_zero i))
        | succ n ih =>
          rcases ih with h | h
          · by_cases e : (fun k => slW fi2 (lN k) (tgT 537919487)) n = true
            · exact Or.inr (by rw [fsI_at (p := fun k => slW fi2 (lN k) (tgT 537919487)) (i := n) e h (n + 1) (Nat.lt_succ_self n)]; exact Nat.lt_succ_self n)
            · refine Or.inl (fun i hi => ?_)
              rcases (show i < n ∨ i = n by omega) with d | d
              · exact h i d
              · rw [d]; exact Bool.eq_false_iff.mpr e
          · refine Or.inr ?_
            show (if fsI (fun k => slW fi2 (lN k) (tgT 537919487)) n < n then fsI (fun k => slW fi2 (lN k) (tgT 537919487)) n else _) < _
            rw [if_pos h]
            omega
      rcases q 1000000 with h | h
      · have r := h 42 (by decide)
        rw [show (fun k => slW fi2 (lN k) (tgT 537919487)) 42 = true from fi_met] at r
        cases r
      · exact absurd h (Nat.not_lt.mpr c)
  have r := fsI_lt (p := fun k => slW fi2 (lN k) (tgT 537919487)) 1000000 lt
  exact ⟨r.1, r.2, lt⟩
/-- the FIRST block -/
def fiF : by_L := fiX (lN fiN)
theorem mf_A : isA (bn_put (81 + 14) 8 (ky_a 0) (bn_put (81 + 6) 8 4096 (bn_put (81 + 2) 4 (nI 0).toInt64 (bn_put 81 2 1 (upd (bn_put 68 4 537919487 (bn_put 64 4 1000 (fun _ => 0))) 80 (nI 1).toInt8.toInt32))))) 0 fi1 := by
  intro j hj
  rw [fi1_len] at hj
  rw [Nat.zero_add, fi1_h hj, ky_a0]
  exact (show ∀ j, j < 103 → (bn_put (81 + 14) 8 (lN 6647114040899463811) (bn_put (81 + 6) 8 4096 (bn_put (81 + 2) 4 (nI 0).toInt64 (bn_put 81 2 1 (upd (bn_put 68 4 537919487 (bn_put 64 4 1000 (fun _ => 0))) 80 (nI 1).toInt8.toInt32))))) j = asH [] 1000 537919487 0 0 4096 (lN 6647114040899463811) j by decide +kernel) j hj
set_option maxHeartbeats 4000000 in
set_option maxRecDepth 100000 in
theorem c_mf_s {κ : hz_C} {M0 : hz_M} {P : hz_P} (hH : M0 8 = hoO 0 200000) (hJ0 : juS M0 63) {f21 : Nat → Int32} (h21 : M0 21 = .inl (0, 8, .inl f21)) (htg : bg f21 0 8 = tgT 537919487) (K : ∀ (M : hz_M), frS [(10, 13), (62, 63)] M0 M → ck_s M → (∃ g : Nat → Int32, M 62 = .inl (1, 103, .inl g) ∧ isA g 0 fiF) → ∀ v, hz_W κ xX11_makeFirst 5 0 0 P 0 0 92 [(2, .int v), (0, .ref 8), (1, .ref 62)] [] 63 M) {i : Nat} (hi : i ≤ fiN) (T : by_L) (M : hz_M) (hTL : T.length = 103) (hnz : ∀ y, nzT T y = nzT fi2 y) (hf : frS [(10, 13), (62, 63)] M0 M) (hs : ck_s M) (hB : ∃ g : Nat → Int32, M 62 = .inl (1, 103, .inl g) ∧ isA g 0 T) (ih : i < fiN → ∀ (M2 : hz_M) (T2 : by_L), T2.length = 103 → (∀ y, nzT T2 y = nzT fi2 y) → frS [(10, 13), (62, 63)] M0 M2 → ck_s M2 → (∃ g : Nat → Int32, M2 62 = .inl (1, 103, .inl g) ∧ isA g 0 T2) → hz_W κ xX11_makeFirst 5 0 0 P 0 0 66 [(2, .int (nI (i + 1))), (0, .ref 8), (1, .ref 62)] [] 63 M2) : hz_W κ xX11_makeFirst 5 0 0 P 0 0 66 [(2, .int (nI i)), (0, .ref 8), (1, .ref 62)] [] 63 M := by
  have hN := fiN_at
  have eq : ∀ q, q < 10 ∨ 13 ≤ q → ¬ q = 62 → M q = M0 q := fun q q1 q2 => hf.at2 (by omega)
  obtain ⟨-, -, -, -, -, -, -, hk0, -, ⟨wb, hw20, -, -, -, -⟩⟩ := id hJ0
  have h8 := (eq 8 (by decide) (by decide)).trans hH
  have hk1 : ck_k M 63 := hk0.fs (eq 9 (by decide) (by decide)) (eq 13 (by decide) (by decide))
  have h201 := (eq 20 (by decide) (by decide)).trans hw20
  have h211 := (eq 21 (by decide) (by decide)).trans h21
  obtain ⟨g, hg, hgA⟩ := hB
  have hsw : slW T (lN i) (tgT 537919487) = slW fi2 (lN i) (tgT 537919487) := by unfold slW; rw [hnz]
  refine hz_iloadn (pc := 66) 0 (hz_dec kX11_makeFirst 35 rfl) rfl ?_
  refine hz_ldcw (pc := 67) (v := nI 1000000) (hz_dec kX11_makeFirst 36 rfl) ks_X11_432 ?_
  refine hz_n_ge (pc := 70) (tgt := 92) (hz_dec kX11_makeFirst 37 rfl) (by decide) (by omega) (by omega) (fun h1 => ?_) (fun h1 => ?_)
  · skip
    exact absurd h1 (by omega)
  · skip
    refine hz_aloadn (pc := 73) 1 (hz_dec kX11_makeFirst 38 rfl) rfl ?_
    refine hz_aloadn (pc := 74) 2 (hz_dec kX11_makeFirst 39 rfl) rfl ?_
    refine hz_iloadn (pc := 75) 0 (hz_dec kX11_makeFirst 40 rfl) rfl ?_
    refine hz_i2l (pc := 76) (hz_dec kX11_makeFirst 41 rfl) ?_
    refine hz_eql (pc := 77) (nI_l (by omega)) ?_
    refine hz_callV (pc := 77) (a := 8) (As := [.ref 62, .long (lN i)]) (st := []) (hz_dec kX11_makeFirst 42 rfl) co_X11_284 im_X11_meetsWith se_X11_meetsWith rfl h8 (by decide) (by decide) (c_meetsW (by decide) (o1 := .ref 13) (os_ := _) h8 hk1 hs h201 h211 htg hg (by decide) (by decide) (by decide) hgA (by omega) (by omega) (x := lN i)) rfl (by decide) ⟨Nat.le_refl _, Nat.le_refl _⟩ (Nat.le_of_ble_eq_true rfl) rfl (fun r9 z9 M2 hp9 => ?_)
    obtain ⟨rfl, rfl, hf2, hs2, g2, hg2, hgA2⟩ := hp9
    rw [hsw]
    have hf3 : frS [(10, 13), (62, 63)] M0 M2 := fun q hq => (hf2 q hq).trans (hf q hq)
    refine hz_if_eq (pc := 80) (tgt := 86) (hz_dec kX11_makeFirst 43 rfl) (by decide) (fun h2 => ?_) (fun h2 => ?_)
    · skip
      have hlt : i < fiN := by
        rcases (show i < fiN ∨ i = fiN by omega) with c | c
        · exact c
        · rw [c, hN.1] at h2
          exact absurd h2 (by decide)
      refine hz_incN (pc := 86) (i := 2) (lo2 := [(2, .int (nI (i + 1))), (0, .ref 8), (1, .ref 62)]) 0 (hz_dec kX11_makeFirst 45 rfl) rfl (by decide) rfl ?_
      refine hz_goto (pc := 89) (tgt := 66) (hz_dec kX11_makeFirst 46 rfl) (by decide) ?_
      refine hz_pick (pc := 66) [0, 1, 2] rfl ?_
      exact ih hlt M2 (nzT T (lN i)) ((nzT_len _ _).trans hTL) (fun y => nz_nz.trans (hnz y)) hf3 hs2 ⟨g2, hg2, hgA2⟩
    · skip
      have e : i = fiN := by
        rcases (show i < fiN ∨ i = fiN by omega) with c | c
        · rw [hN.2.1 i c] at h2
          exact absurd rfl h2
        · exact c
      refine hz_goto (pc := 83) (tgt := 92) (hz_dec kX11_makeFirst 44 rfl) (by decide) ?_
      refine hz_pick (pc := 92) [0, 1, 2] rfl ?_
      exact K M2 hf3 hs2 ⟨g2, hg2, by rw [hnz, e] at hgA2; exact hgA2⟩ _
set_option maxHeartbeats 4000000 in
set_option maxRecDepth 100000 in
theorem c_mf_l {κ : hz_C} {M0 : hz_M} {P : hz_P} (hH : M0 8 = hoO 0 200000) (hJ0 : juS M0 63) {f21 : Nat → Int32} (h21 : M0 21 = .inl (0, 8, .inl f21)) (htg : bg f21 0 8 = tgT 537919487) (K : ∀ (M : hz_M), frS [(10, 13), (62, 63)] M0 M → ck_s M → (∃ g : Nat → Int32, M 62 = .inl (1, 103, .inl g) ∧ isA g 0 fiF) → ∀ v, hz_W κ xX11_makeFirst 5 0 0 P 0 0 92 [(2, .int v), (0, .ref 8), (1, .ref 62)] [] 63 M) : ∀ k i T (M : hz_M), k = fiN - i → i ≤ fiN → T.length = 103 → (∀ y, nzT T y = nzT fi2 y) → frS [(10, 13), (62, 63)] M0 M → ck_s M → (∃ g : Nat → Int32, M 62 = .inl (1, 103, .inl g) ∧ isA g 0 T) → hz_W κ xX11_makeFirst 5 0 0 P 0 0 66 [(2, .int (nI i)), (0, .ref 8), (1, .ref 62)] [] 63 M := by
  intro k
  induction k with
  | zero =>
    intro i T M hk hi hTL hnz hf hs hB
    exact c_mf_s hH hJ0 h21 htg K (by omega) T M hTL hnz hf hs hB (fun hlt => absurd hlt (by omega))
  | succ k ih =>
    intro i T M hk hi hTL hnz hf hs hB
    exact c_mf_s hH hJ0 h21 htg K hi T M hTL hnz hf hs hB (fun hlt M2 T2 a1 a2 a3 a4 a5 => ih (i + 1) T2 M2 (by omega) (by omega) a1 a2 a3 a4 a5)
set_option maxHeartbeats 4000000 in
set_option maxRecDepth 100000 in
theorem c_mkF {κ : hz_C} {M : hz_M} (hH : M 8 = hoO 0 200000) (hJ : juS M 63) (h62 : M 62 = .inl (1, 103, .inl (fun _ => 0))) : hz_Mt κ xX11_makeFirst 5 0 0 [.ref 8, .ref 62] 63 M (fun r z2 M2 => none = r ∧ 63 = z2 ∧ (∀ q, q < 9 ∨ 39 ≤ q ∧ q < 62 → M2 q = M q) ∧ juS M2 63 ∧ (∃ g : Nat → Int32, M2 62 = .inl (1, 103, .inl g) ∧ isA g 0 fiF) ∧ (∃ fh : Nat → Int32, M2 37 = .inl (1, 32, .inl fh) ∧ isA fh 0 (haS fiF)) ∧ ∃ fi : Nat → Int64, M2 38 = .inl (2, 8, .inr (.inl fi)) ∧ ∀ j, j < bkN fiF → fi j = idS (bkT fiF j)) := by
  refine hz_ent (lo := [(0, .ref 8), (1, .ref 62)]) (by decide) (Nat.le_of_ble_eq_true rfl) rfl ?_
  obtain ⟨-, -, -, -, -, -, -, hk, hs, hw⟩ := id hJ
  refine hz_aloadn (pc := 0) 1 (hz_dec kX11_makeFirst 0 rfl) rfl ?_
  refine hz_bipush (pc := 1) (v := nI 64) (hz_dec kX11_makeFirst 1 rfl) (by decide) ?_
  refine hz_ldc2 (pc := 3) (v := (1000)) (hz_dec kX11_makeFirst 2 rfl) ks_X11_425 ?_
  refine hz_iconst (pc := 6) (v := nI 4) (hz_dec kX11_makeFirst 3 rfl) (by decide) ?_
  refine hz_xS (pc := 7) (As := [.ref 62, .int (nI 64), .long (1000), .int (nI 4)]) (st := []) (hz_dec kX11_makeFirst 4 rfl) co_X11_127 sc_X0_put (c_put (at_ := 64) (mn := 4) (v := 1000) h62 (by decide) (by decide) (by decide) (by decide)) rfl (by decide) ⟨Nat.le_refl _, Nat.le_refl _⟩ (Nat.le_of_ble_eq_true rfl) rfl ?_
  refine hz_aloadn (pc := 10) 1 (hz_dec kX11_makeFirst 5 rfl) rfl ?_
  refine hz_bipush (pc := 11) (v := nI 68) (hz_dec kX11_makeFirst 6 rfl) (by decide) ?_
  refine hz_ldc2 (pc := 13) (v := (537919487)) (hz_dec kX11_makeFirst 7 rfl) ks_X11_427 ?_
  refine hz_iconst (pc := 16) (v := nI 4) (hz_dec kX11_makeFirst 8 rfl) (by decide) ?_
  refine hz_xS (pc := 17) (As := [.ref 62, .int (nI 68), .long (537919487), .int (nI 4)]) (st := []) (hz_dec kX11_makeFirst 9 rfl) co_X11_127 sc_X0_put (c_put (at_ := 68) (mn := 4) (v := 537919487) (va_up_self _ _ _) (by decide) (by decide) (by decide) (by decide)) rfl (by decide) ⟨Nat.le_refl _, Nat.le_refl _⟩ (Nat.le_of_ble_eq_true rfl) rfl ?_
  refine hz_mem (pc := 20) (M2 := (va_up M 62 (.inl (1, 103, .inl (bn_put 68 4 537919487 (bn_put 64 4 1000 (fun _ => 0))))))) (bx_uu _ _ _ _) ?_
  refine hz_aloadn (pc := 20) 1 (hz_dec kX11_makeFirst 10 rfl) rfl ?_
  refine hz_bipush (pc := 21) (v := nI 80) (hz_dec kX11_makeFirst 11 rfl) (by decide) ?_
  refine hz_iconst (pc := 23) (v := nI 1) (hz_dec kX11_makeFirst 12 rfl) (by decide) ?_
  refine hz_bast (pc := 24) (j := 80) (hz_dec kX11_makeFirst 13 rfl) (va_up_self _ _ _) (by decide) (by decide) rfl (by omega) (by decide) ?_
  refine hz_aloadn (pc := 25) 1 (hz_dec kX11_makeFirst 14 rfl) rfl ?_
  refine hz_bipush (pc := 26) (v := nI 81) (hz_dec kX11_makeFirst 15 rfl) (by decide) ?_
  refine hz_iconst (pc := 28) (v := nI 0) (hz_dec kX11_makeFirst 16 rfl) (by decide) ?_
  refine hz_ldc2 (pc := 29) (v := (4096)) (hz_dec kX11_makeFirst 17 rfl) ks_X11_429 ?_
  refine hz_aloadn (pc := 32) 0 (hz_dec kX11_makeFirst 18 rfl) rfl ?_
  refine hz_get (pc := 33) (hz_dec kX11_makeFirst 19 rfl) fo_X11_30 (hz_mne (hz_mne hH (by decide)) (by decide)) (by decide) (by decide) rfl ?_
  refine hz_lconst (pc := 36) (v := 0) (hz_dec kX11_makeFirst 20 rfl) (by decide) ?_
  refine hz_mem (pc := 37) (M2 := (va_up M 62 (.inl (1, 103, .inl (upd (bn_put 68 4 537919487 (bn_put 64 4 1000 (fun _ => 0))) 80 ((nI (1)).toInt8.toInt32)))))) (bx_uu _ _ _ _) ?_
  have hk1 : ck_k (va_up M 62 (.inl (1, 103, .inl (upd (bn_put 68 4 537919487 (bn_put 64 4 1000 (fun _ => 0))) 80 ((nI (1)).toInt8.toInt32))))) 63 := hk.fs (va_up_ne _ _ (by decide)) (va_up_ne _ _ (by decide))
  have hs1 : ck_s (va_up M 62 (.inl (1, 103, .inl (upd (bn_put 68 4 537919487 (bn_put 64 4 1000 (fun _ => 0))) 80 ((nI (1)).toInt8.toInt32))))) := hs.up (by decide)
  refine hz_callV (pc := 37) (a := 13) (As := [.long 0]) (st := [.long (4096), .int (nI 0), .int (nI 81), .ref 62]) (hz_dec kX11_makeFirst 21 rfl) co_X11_148 im_X4_addressOf se_X4_addressOf rfl (hz_mne hk.2.1 (by decide)) (by decide) (by decide) (c_cadO hk1 hs1) rfl (by decide) ⟨Nat.le_refl _, Nat.le_refl _⟩ (Nat.le_of_ble_eq_true rfl) rfl (fun r9 z9 M1 hp9 => ?_)
  obtain ⟨rfl, rfl, hf1, hs2, -⟩ := hp9
  have eq1 : ∀ q, q < 10 ∨ 19 ≤ q → M1 q = (va_up M 62 (.inl (1, 103, .inl (upd (bn_put 68 4 537919487 (bn_put 64 4 1000 (fun _ => 0))) 80 ((nI (1)).toInt8.toInt32))))) q := fun q hq => hf1 q (fun o9 ho9 => by simp only [List.mem_cons, List.not_mem_nil, or_false] at ho9; omega)
  have h8b := (eq1 8 (by decide)).trans (hz_mne hH (by decide))
  have h62b := (eq1 62 (by decide)).trans (va_up_self _ _ _)
  have hJ1 : juS M1 63 := (hJ.al (M2 := (va_up M 62 (.inl (1, 103, .inl (upd (bn_put 68 4 537919487 (bn_put 64 4 1000 (fun _ => 0))) 80 ((nI (1)).toInt8.toInt32)))))) (fun q q1 q2 => va_up_ne _ _ (by omega))).k hf1 rfl rfl rfl hs2
  refine hz_xS (pc := 40) (As := [.ref 62, .int (nI 81), .int (nI 0), .long (4096), .long (ky_a 0)]) (st := []) (hz_dec kX11_makeFirst 22 rfl) co_X11_266 sc_X0_putReward (c_putRw (at_ := 81) h62b (by decide) (by decide) (by decide) (by decide)) rfl (by decide) ⟨Nat.le_refl _, Nat.le_refl _⟩ (Nat.le_of_ble_eq_true rfl) rfl ?_
  refine hz_aloadn (pc := 43) 0 (hz_dec kX11_makeFirst 23 rfl) rfl ?_
  refine hz_get (pc := 44) (hz_dec kX11_makeFirst 24 rfl) fo_X11_46 (hz_mne h8b (by decide)) (by decide) (by decide) rfl ?_
  refine hz_aloadn (pc := 47) 1 (hz_dec kX11_makeFirst 25 rfl) rfl ?_
  refine hz_bipush (pc := 48) (v := nI 103) (hz_dec kX11_makeFirst 26 rfl) (by decide) ?_
  have hJ2 : juS (va_up M1 62 (.inl (1, 103, .inl (bn_put (81 + 14) 8 (ky_a 0) (bn_put (81 + 6) 8 4096 (bn_put (81 + 2) 4 (nI 0).toInt64 (bn_put 81 2 1 (upd (bn_put 68 4 537919487 (bn_put 64 4 1000 (fun _ => 0))) 80 (nI 1).toInt8.toInt32)))))))) 63 := hJ1.al (fun q q1 q2 => va_up_ne _ _ (by omega))
  obtain ⟨⟨bf2, fe2, hj2⟩, -⟩ := id hJ2
  have cR := c_putRoot (κ := κ) (l := fi1) hJ2 (va_up_self _ _ _) (by decide) (by decide) (by decide) mf_A (by rw [fi1_len]; decide)
  rw [fi1_len] at cR
  refine hz_callV (pc := 50) (a := 25) (As := [.ref 62, .int (nI 103)]) (st := []) (hz_dec kX11_makeFirst 27 rfl) co_X11_270 im_X3_putRoot se_X3_putRoot rfl hj2 (by decide) (by decide) (cR) rfl (by decide) ⟨Nat.le_refl _, Nat.le_refl _⟩ (Nat.le_of_ble_eq_true rfl) rfl (fun r9 z9 M3 hp9 => ?_)
  obtain ⟨hr3, rfl, hf3, hJ3, g3, hg3, hgA3, hid3⟩ := hp9
  subst hr3
  rw [if_neg (by rw [fi1_n]; decide)] at hgA3
  obtain ⟨fi3, h38, hfi3⟩ := hid3 (by rw [fi1_n]; decide)
  have hgA3b : isA g3 0 fi2 := hgA3
  have eq3 : ∀ q, q < 9 ∨ 20 ≤ q ∧ q < 34 ∨ 36 ≤ q ∧ q < 38 ∨ 39 ≤ q ∧ q < 62 → M3 q = M q := fun q hq => ((hf3.at4 (by omega)).trans (va_up_ne _ _ (by omega))).trans ((eq1 q (by omega)).trans (va_up_ne _ _ (by omega)))
  have h8c := (eq3 8 (by decide)).trans hH
  obtain ⟨⟨bf3, fe3, hj3⟩, hx34, hx35, hx36, hx37, hx38, hx26, hk3, hs3, ⟨wb3, hw20, ⟨f21, h21⟩, ⟨f22, h22⟩, ⟨f23, h23⟩, f24, h24, h24x⟩⟩ := id hJ3
  refine hz_pop (pc := 53) (hz_dec kX11_makeFirst 28 rfl) rfl ?_
  refine hz_aloadn (pc := 54) 0 (hz_dec kX11_makeFirst 29 rfl) rfl ?_
  refine hz_get (pc := 55) (hz_dec kX11_makeFirst 30 rfl) fo_X11_37 h8c (by decide) (by decide) rfl ?_
  refine hz_ldcw (pc := 58) (v := nI 537919487) (hz_dec kX11_makeFirst 31 rfl) ks_X11_431 ?_
  refine hz_callV (pc := 61) (a := 20) (As := [.int (nI 537919487)]) (st := []) (hz_dec kX11_makeFirst 32 rfl) co_X11_281 im_X9_load se_X9_load rfl hw20 (by decide) (by decide) (c_load hw20 (by decide) h21 (by decide +kernel) (by decide +kernel)) rfl (by decide) ⟨Nat.le_refl _, Nat.le_refl _⟩ (Nat.le_of_ble_eq_true rfl) rfl (fun r9 z9 M4 hp9 => ?_)
  obtain ⟨rfl, rfl, f9, hb9, rfl⟩ := hp9
  have hw4 : ck_w (va_up M3 21 (.inl (0, 8, .inl f9))) := ⟨wb3, hz_mne hw20 (by decide), ⟨f9, va_up_self _ _ _⟩, ⟨f22, hz_mne h22 (by decide)⟩, ⟨f23, hz_mne h23 (by decide)⟩, ⟨f24, hz_mne h24 (by decide), h24x⟩⟩
  have hJ4 : juS (va_up M3 21 (.inl (0, 8, .inl f9))) 63 := hJ3.w (fun q q1 q2 q3 => va_up_ne _ _ (by omega)) hw4
  refine hz_iconst (pc := 64) (v := nI 0) (hz_dec kX11_makeFirst 33 rfl) (by decide) ?_
  refine hz_istoren (pc := 65) (i := 2) (lo2 := [(2, .int (nI 0)), (0, .ref 8), (1, .ref 62)]) (hz_dec kX11_makeFirst 34 rfl) rfl (by decide) rfl ?_
  refine hz_pick (pc := 66) [0, 1, 2] rfl ?_
  refine c_mf_l (M0 := va_up M3 21 (.inl (0, 8, .inl f9))) (hz_mne h8c (by decide)) hJ4 (va_up_self _ _ _) hb9 (fun M5 hf5 hs5 hB5 v5 => ?_) fiN 0 fi2 _ (by omega) (Nat.zero_le _) fi2_len (fun _ => rfl) (fun q hq => rfl) (hs3.up (by decide)) ⟨g3, hz_mne hg3 (by decide), hgA3b⟩
  obtain ⟨g5, hg5, hgA5⟩ := hB5
  have eq5 : ∀ q, q < 10 ∨ 13 ≤ q → ¬ q = 62 → ¬ q = 21 → M5 q = M3 q := fun q q1 q2 q3 => (hf5.at2 (by omega)).trans (va_up_ne _ _ q3)
  have eq5w : ∀ q, q < 10 ∨ 13 ≤ q → ¬ q = 62 → M5 q = (va_up M3 21 (.inl (0, 8, .inl f9))) q := fun q q1 q2 => hf5.at2 (by omega)
  have h8d := (eq5 8 (by decide) (by decide) (by decide)).trans h8c
  have hj5 : juO M5 bf3 fe3 := (eq5 25 (by decide) (by decide) (by decide)).trans hj3
  have hk5 : ck_k M5 63 := hk3.fs (eq5 9 (by decide) (by decide) (by decide)) (eq5 13 (by decide) (by decide) (by decide))
  have hw5 : ck_w M5 := hw4.fs (fun q q1 q2 => eq5w q (by omega) (by omega))
  obtain ⟨f37, h37⟩ := hx37
  have h375 := (eq5 37 (by decide) (by decide) (by decide)).trans h37
  have hFl : fiF.length = 103 := fiX_len _
  refine hz_aloadn (pc := 92) 1 (hz_dec kX11_makeFirst 47 rfl) rfl ?_
  refine hz_get (pc := 93) (hz_dec kX11_makeFirst 48 rfl) fo_X11_46 h8d (by decide) (by decide) rfl ?_
  refine hz_aloadn (pc := 96) 2 (hz_dec kX11_makeFirst 49 rfl) rfl ?_
  refine hz_iconst (pc := 97) (v := nI 0) (hz_dec kX11_makeFirst 50 rfl) (by decide) ?_
  refine hz_callV (pc := 98) (a := 25) (As := [.ref 62, .int (nI 0)]) (st := []) (hz_dec kX11_makeFirst 51 rfl) co_X11_433 im_X3_works se_X3_works rfl hj5 (by decide) (by decide) (c_works hk5 hs5 hw5 hj5 h375 hg5 (by decide) (by decide) (by decide) (hdS_A hgA5 (by omega)) (hdS_len fiF) (by decide)) rfl (by decide) ⟨Nat.le_refl _, Nat.le_refl _⟩ (Nat.le_of_ble_eq_true rfl) rfl (fun r9 z9 M6 hp9 => ?_)
  obtain ⟨hr6, rfl, hf6, hk6, hs6, hw6, fh6, h376, hH6⟩ := hp9
  subst hr6
  have eq6 : ∀ q, q < 10 ∨ 13 ≤ q → ¬ q = 21 → ¬ q = 37 → M6 q = M5 q := fun q q1 q2 q3 => hf6.at3 (by omega)
  refine hz_pop (pc := 101) (hz_dec kX11_makeFirst 52 rfl) rfl ?_
  refine hz_vret (pc := 102) (hz_dec kX11_makeFirst 53 rfl) rfl ⟨rfl, rfl, fun q hq => (eq6 q (by omega) (by omega) (by omega)).trans ((eq5 q (by omega) (by omega) (by omega)).trans (eq3 q (by omega))), ?_, ⟨g5, (eq6 62 (by decide) (by decide) (by decide)).trans hg5, hgA5⟩, ⟨fh6, h376, hH6⟩, ⟨fi3, (eq6 38 (by decide) (by decide) (by decide)).trans ((eq5 38 (by decide) (by decide) (by decide)).trans h38), fun j hj => ?_⟩⟩
  · obtain ⟨s34, h34⟩ := hx34
    obtain ⟨s35, h35⟩ := hx35
    obtain ⟨s36, h36⟩ := hx36
    obtain ⟨cs26, h26⟩ := hx26
    have e : ∀ q, 25 ≤ q → q < 39 → ¬ q = 37 → M6 q = M3 q := fun q q1 q2 q3 => (eq6 q (by omega) (by omega) (by omega)).trans (eq5 q (by omega) (by omega) (by omega))
    exact ⟨⟨bf3, fe3, (e 25 (by decide) (by decide) (by decide)).trans hj3⟩, ⟨s34, (e 34 (by decide) (by decide) (by decide)).trans h34⟩, ⟨s35, (e 35 (by decide) (by decide) (by decide)).trans h35⟩, ⟨s36, (e 36 (by decide) (by decide) (by decide)).trans h36⟩, ⟨fh6, h376⟩, ⟨fi3, (e 38 (by decide) (by decide) (by decide)).trans h38⟩, ⟨cs26, h26.fr (fun q q1 q2 => e q (by omega) (by omega) (by omega))⟩, hk6, hs6, hw6⟩
  · have hb : bkN fiF = 1 := (fiX_k _).1
    rw [hb] at hj
    have ej : j = 0 := by omega
    rw [ej, hfi3 0 (by rw [fi1_n]; decide)]
    show idS (bkT fi1 0) = idS (bkT (fiX (lN fiN)) 0)
    rw [fiX_t]
