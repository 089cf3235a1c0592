/-! the reference: frames with fields; what is unspent -/
def fdB (M : hz_M) (B k : Nat) : Option Value := match M B with
  | .inr (_, fs) => fs[k]?
  | _ => none
theorem fdB_of {M : hz_M} {B ci : Nat} {fs : List Value} (h : M B = .inr (ci, fs)) (k : Nat) : fdB M B k = fs[k]? := by unfold fdB; rw [h]
def md_O (M : hz_M) (B : Nat) : Prop := ∃ fs, M B = .inr (12, fs) ∧ md_F B fs
/-- of the reference's object only the fields ks and the arrays os change -/
def mfr (B : Nat) (ks os : List Nat) (M M2 : hz_M) : Prop := frl B (0 :: os) M M2 ∧ md_O M2 B ∧ ∀ k, ks.elem k = false → fdB M2 B k = fdB M B k
theorem mfr.rf {B : Nat} {ks os : List Nat} {M : hz_M} (h : md_O M B) : mfr B ks os M M := ⟨frl.rf, h, fun _ _ => rfl⟩
theorem mfr.tr {B : Nat} {ks os : List Nat} {M M2 M3 : hz_M} (h : mfr B ks os M M2) (h2 : mfr B ks os M2 M3) : mfr B ks os M M3 := ⟨fun a ha => (h2.1 a ha).trans (h.1 a ha), h2.2.1, fun k hk => (h2.2.2 k hk).trans (h.2.2 k hk)⟩
theorem mfr.mono {B : Nat} {ks os ks2 os2 : List Nat} {M M2 : hz_M} (h : mfr B ks os M M2) (s1 : ks.all (fun o => ks2.elem o) = true) (s2 : os.all (fun o => os2.elem o) = true) : mfr B ks2 os2 M M2 := by
  refine ⟨fun a ha => h.1 a (fun o ho => ?_), h.2.1, fun k hk => h.2.2 k ?_⟩
  · rcases List.mem_cons.mp ho with rfl | c
    · exact ha 0 (List.mem_cons_self ..)
    · exact ha o (List.mem_cons_of_mem _ (List.elem_iff.mp (List.all_eq_true.mp s2 o c)))
  · cases e : ks.elem k with
    | false => rfl
    | true =>
      have q := List.all_eq_true.mp s1 k (List.elem_iff.mp e)
      rw [hk] at q
      cases q
theorem mfr.ofl {B : Nat} {ks os : List Nat} {M M2 : hz_M} (hO : md_O M B) (h : frl B os M M2) (h0 : os.elem 0 = false) : mfr B ks os M M2 := by
  have e := h.at0 h0
  obtain ⟨fs, h1, h2⟩ := hO
  exact ⟨fun a ha => h a (fun o ho => ha o (List.mem_cons_of_mem _ ho)), ⟨fs, e.trans h1, h2⟩, fun k _ => by unfold fdB; rw [e]⟩
theorem mfr.upA {B o : Nat} {ks os : List Nat} {M M2 : hz_M} {e : va_E} (h : mfr B ks os M M2) (s1 : os.elem o = true) (s0 : ¬ o = 0) : mfr B ks os M (va_up M2 (B + o) e) := by
  have e0 : va_up M2 (B + o) e B = M2 B := va_up_ne _ _ (by omega)
  refine ⟨fun a ha => (va_up_ne _ _ (ha o (List.mem_cons_of_mem _ (List.elem_iff.mp s1)))).trans (h.1 a ha), ?_, fun k hk => ?_⟩
  · obtain ⟨fs, h1, h2⟩ := h.2.1
    exact ⟨fs, e0.trans h1, h2⟩
  · rw [← h.2.2 k hk]
    unfold fdB
    rw [e0]
theorem mfr.upO {B k : Nat} {ks os : List Nat} {M M2 : hz_M} {fs : List Value} {v : Value} (h : mfr B ks os M M2) (hO : M2 B = .inr (12, fs)) (hF : md_F B fs) (s1 : ks.elem k = true) (s0 : md_off k = 0) : mfr B ks os M (va_up M2 B (.inr (12, fs.set k v))) := by
  refine ⟨fun a ha => (va_up_ne _ _ (ha 0 (List.mem_cons_self ..))).trans (h.1 a ha), ⟨_, va_up_self _ _ _, md_set hF s0⟩, fun j hj => ?_⟩
  rw [← h.2.2 j hj, fdB_of (va_up_self _ _ _), fdB_of hO]
  have ne : ¬ k = j := fun c => by rw [c, hj] at s1; cases s1
  exact List.getElem?_set_ne ne
theorem mfr.at {B : Nat} {ks os : List Nat} {M M2 : hz_M} (h : mfr B ks os M M2) (c : Nat) (h0 : ¬ c = 0) (hc : os.elem c = false) : M2 (B + c) = M (B + c) := by
  refine h.1 _ (fun o ho => ?_)
  rcases List.mem_cons.mp ho with rfl | q
  · omega
  · intro e
    have e2 : c = o := by omega
    subst e2
    rw [List.elem_iff.mpr q] at hc
    cases hc
theorem mfr.out {B a : Nat} {ks os : List Nat} {M M2 : hz_M} (h : mfr B ks os M M2) (hos : os.all (fun o => decide (o < 88)) = true) (ha : a < B ∨ B + 88 ≤ a) : M2 a = M a :=
  h.1 a (fun o ho => by
    rcases List.mem_cons.mp ho with rfl | q
    · omega
    · have q2 := of_decide_eq_true (List.all_eq_true.mp hos o q)
      omega)
def mcR (M : hz_M) (B : Nat) (cs : List co_C) : Prop := md_O M B ∧ fdB M B 53 = some (.int (nI cs.length)) ∧ cs.length ≤ 4000 ∧ ∃ (f1 : Nat → Int64) (f2 : Nat → Int32) (f3 f4 : Nat → Int64) (f5 f6 : Nat → Int32), M (B + 43) = .inl (2, 5000, .inr (.inl f1)) ∧ M (B + 44) = .inl (0, 5000, .inl f2) ∧ M (B + 45) = .inl (2, 5000, .inr (.inl f3)) ∧ M (B + 46) = .inl (2, 5000, .inr (.inl f4)) ∧ M (B + 47) = .inl (0, 5000, .inl f5) ∧ M (B + 48) = .inl (3, 5000, .inl f6) ∧ coX f1 f2 f3 f4 f5 f6 cs
theorem mcR.fr {M M2 : hz_M} {B : Nat} {cs : List co_C} {ks os : List Nat} (h : mcR M B cs) (e : mfr B ks os M M2) (h53 : ks.elem 53 = false) (ho : [43, 44, 45, 46, 47, 48].all (fun o => !os.elem o) = true) : mcR M2 B cs := by
  obtain ⟨h0, h1, hl, f1, f2, f3, f4, f5, f6, g1, g2, g3, g4, g5, g6, hx⟩ := h
  have q : ∀ o ∈ [43, 44, 45, 46, 47, 48], os.elem o = false := fun o hq => by simpa using List.all_eq_true.mp ho o hq
  exact ⟨e.2.1, (e.2.2 53 h53).trans h1, hl, f1, f2, f3, f4, f5, f6, (e.at 43 (by decide) (q 43 (by decide))).trans g1, (e.at 44 (by decide) (q 44 (by decide))).trans g2, (e.at 45 (by decide) (q 45 (by decide))).trans g3, (e.at 46 (by decide) (q 46 (by decide))).trans g4, (e.at 47 (by decide) (q 47 (by decide))).trans g5, (e.at 48 (by decide) (q 48 (by decide))).trans g6, hx⟩
set_option maxHeartbeats 4000000 in
set_option maxRecDepth 100000 in
theorem c_mcIx_l {κ : hz_C} {z : Nat} {M : hz_M} {B : Nat} {cs : List co_C} (h : mcR M B cs) (h8 : 8 ≤ B) (hz : B + 88 ≤ z) {iD : Int64} {pl : Int32} : ∀ k i, k = cs.length - i → i ≤ cs.length → (∀ j, j < i → decide ((coL cs j).1 = iD ∧ (coL cs j).2.1 = pl) = false) → hz_W κ xX12_findCoin 0 0 0 (hz_ex (some (.int (ixI (coF cs iD pl) cs.length))) z M) 0 0 3 [(4, .int (nI i)), (0, .ref B), (1, .long iD), (3, .int pl)] [] z M := by
  intro k
  induction k using Nat.strongRecOn with
  | ind k ih =>
  intro i hk hi hs
  obtain ⟨⟨fs, hO, hF⟩, hs53, hle, f1, f2, f3, f4, f5, f6, g1, g2, g3, g4, g5, g6, hX⟩ := id h
  rw [fdB_of hO] at hs53
  refine hz_iload (pc := 3) 0 (hz_dec kX12_findCoin 2 rfl) rfl ?_
  refine hz_aloadn (pc := 5) 1 (hz_dec kX12_findCoin 3 rfl) rfl ?_
  refine hz_get (pc := 6) (v := .int (nI (cs.length))) (hz_dec kX12_findCoin 4 rfl) fo_X12_479 hO h8 (by omega) hs53 ?_
  refine hz_n_ge (pc := 9) (tgt := 44) (hz_dec kX12_findCoin 5 rfl) (by decide) (by omega) (by omega) (fun h1 => ?_) (fun h1 => ?_)
  · skip
    have e : i = cs.length := by omega
    subst e
    refine hz_iconst (pc := 44) (v := (-1)) (hz_dec kX12_findCoin 23 rfl) (by decide) ?_
    refine hz_iret (pc := 45) (hz_dec kX12_findCoin 24 rfl) rfl ⟨?_, rfl, rfl⟩
    unfold ixI coF
    rw [fsI_no _ hs, if_neg (by omega)]
  · skip
    refine hz_aloadn (pc := 12) 1 (hz_dec kX12_findCoin 6 rfl) rfl ?_
    refine hz_get (pc := 13) (v := .ref (B + 43)) (hz_dec kX12_findCoin 7 rfl) fo_X12_140 hO h8 (by omega) (hF.2 47 (by decide) (by decide)) ?_
    refine hz_iload (pc := 16) 0 (hz_dec kX12_findCoin 8 rfl) rfl ?_
    refine hz_lald (pc := 18) (j := i) (hz_dec kX12_findCoin 9 rfl) g1 (by omega) (by omega) rfl (by omega) (by decide) ?_
    refine hz_eql (pc := 19) (hX (i) (by omega)).1 ?_
    refine hz_lloadn (pc := 19) 2 (hz_dec kX12_findCoin 10 rfl) rfl ?_
    refine hz_lcmp (pc := 20) (hz_dec kX12_findCoin 11 rfl) ?_
    refine hz_if_ne (pc := 21) (tgt := 38) (hz_dec kX12_findCoin 12 rfl) (by decide) (fun h2 => ?_) (fun h2 => ?_)
    · skip
      refine hz_incN (pc := 38) (i := 4) (lo2 := [(4, .int (nI (i + 1))), (0, .ref B), (1, .long iD), (3, .int pl)]) 0 (hz_dec kX12_findCoin 21 rfl) rfl (by decide) rfl ?_
      refine hz_goto (pc := 41) (tgt := 3) (hz_dec kX12_findCoin 22 rfl) (by decide) ?_
      refine hz_pick (pc := 3) [0, 1, 2, 3] rfl ?_
      refine ih (cs.length - (i + 1)) (by omega) (i + 1) rfl (by omega) (fun j hj => ?_)
      rcases (show j = i ∨ j < i by omega) with rfl | c
      · exact decide_eq_false (fun q => h2 (by rw [q.1]; exact (lg_cmp_eq _ _).mpr rfl))
      · exact hs j c
    · skip
      refine hz_aloadn (pc := 24) 1 (hz_dec kX12_findCoin 13 rfl) rfl ?_
      refine hz_get (pc := 25) (v := .ref (B + 44)) (hz_dec kX12_findCoin 14 rfl) fo_X12_143 hO h8 (by omega) (hF.2 48 (by decide) (by decide)) ?_
      refine hz_iload (pc := 28) 0 (hz_dec kX12_findCoin 15 rfl) rfl ?_
      refine hz_iald (pc := 30) (j := i) (hz_dec kX12_findCoin 16 rfl) g2 (by omega) (by omega) rfl (by omega) (by decide) ?_
      refine hz_eqi (pc := 31) (hX (i) (by omega)).2.1 ?_
      refine hz_iloadn (pc := 31) 3 (hz_dec kX12_findCoin 17 rfl) rfl ?_
      refine hz_icmp_ne (pc := 32) (tgt := 38) (hz_dec kX12_findCoin 18 rfl) (by decide) (fun h3 => ?_) (fun h3 => ?_)
      · skip
        refine hz_incN (pc := 38) (i := 4) (lo2 := [(4, .int (nI (i + 1))), (0, .ref B), (1, .long iD), (3, .int pl)]) 0 (hz_dec kX12_findCoin 21 rfl) rfl (by decide) rfl ?_
        refine hz_goto (pc := 41) (tgt := 3) (hz_dec kX12_findCoin 22 rfl) (by decide) ?_
        refine hz_pick (pc := 3) [0, 1, 2, 3] rfl ?_
        refine ih (cs.length - (i + 1)) (by omega) (i + 1) rfl (by omega) (fun j hj => ?_)
        rcases (show j = i ∨ j < i by omega) with rfl | c
        · exact decide_eq_false (fun q => h3 q.2)
        · exact hs j c
      · skip
        refine hz_iload (pc := 35) 0 (hz_dec kX12_findCoin 19 rfl) rfl ?_
        refine hz_iret (pc := 37) (hz_dec kX12_findCoin 20 rfl) rfl ⟨?_, rfl, rfl⟩
        unfold ixI coF
        rw [fsI_at (i := i) (decide_eq_true ⟨(lg_cmp_eq _ _).mp h2, h3⟩) hs _ (by omega), if_pos (by omega)]
set_option maxHeartbeats 4000000 in
set_option maxRecDepth 100000 in
theorem c_mcIx {κ : hz_C} {z : Nat} {M : hz_M} {B : Nat} {cs : List co_C} (h : mcR M B cs) (h8 : 8 ≤ B) (hz : B + 88 ≤ z) {iD : Int64} {pl : Int32} : hz_Mt κ xX12_findCoin 0 0 0 [.ref B, .long iD, .int pl] z M (hz_ex (some (.int (ixI (coF cs iD pl) cs.length))) z M) := by
  refine hz_ent (lo := [(0, .ref B), (1, .long iD), (3, .int pl)]) (by decide) (Nat.le_of_ble_eq_true rfl) rfl ?_
  refine hz_iconst (pc := 0) (v := nI 0) (hz_dec kX12_findCoin 0 rfl) (by decide) ?_
  refine hz_istore (pc := 1) (i := 4) (lo2 := [(4, .int (nI 0)), (0, .ref B), (1, .long iD), (3, .int pl)]) (hz_dec kX12_findCoin 1 rfl) (by decide) rfl ?_
  refine hz_pick (pc := 3) [0, 1, 2, 3] rfl ?_
  exact c_mcIx_l h h8 hz cs.length 0 rfl (by omega) (fun j hj => absurd hj (by omega))
set_option maxHeartbeats 4000000 in
set_option maxRecDepth 100000 in
theorem c_mcHs_1 {κ : hz_C} {z : Nat} {M : hz_M} {B : Nat} {cs : List co_C} (h : mcR M B cs) (h8 : 8 ≤ B) (hz : B + 88 ≤ z) {iD : Int64} {i : Nat} (hi : i ≤ cs.length) (ht : coHs cs iD = true) : hz_W κ xX12_hasCoins 0 0 0 (hz_ex (some (.int (hz_b (coHs cs iD)))) z M) 0 0 5 [(4, .int (nI i)), (3, .int (nI 1)), (0, .ref B), (1, .long iD)] [] z M := by
  obtain ⟨⟨fs, hO, hF⟩, hs53, hle, f1, f2, f3, f4, f5, f6, g1, g2, g3, g4, g5, g6, hX⟩ := id h
  rw [fdB_of hO] at hs53
  refine hz_iload (pc := 5) 0 (hz_dec kX12_hasCoins 4 rfl) rfl ?_
  refine hz_aloadn (pc := 7) 2 (hz_dec kX12_hasCoins 5 rfl) rfl ?_
  refine hz_get (pc := 8) (v := .int (nI (cs.length))) (hz_dec kX12_hasCoins 6 rfl) fo_X12_479 hO h8 (by omega) hs53 ?_
  refine hz_n_ge (pc := 11) (tgt := 42) (hz_dec kX12_hasCoins 7 rfl) (by decide) (by omega) (by omega) (fun h1 => ?_) (fun h1 => ?_)
  · skip
    refine hz_iloadn (pc := 42) 1 (hz_dec kX12_hasCoins 23 rfl) rfl ?_
    exact hz_zret (pc := 43) (hz_dec kX12_hasCoins 24 rfl) rfl rfl ⟨by rw [ht]; rfl, rfl, rfl⟩
  · skip
    refine hz_iloadn (pc := 14) 1 (hz_dec kX12_hasCoins 8 rfl) rfl ?_
    refine hz_z_ne (pc := 15) (tgt := 42) (hz_dec kX12_hasCoins 9 rfl) (by decide) (by omega) (fun h2 => ?_) (fun h2 => ?_)
    · skip
      refine hz_iloadn (pc := 42) 1 (hz_dec kX12_hasCoins 23 rfl) rfl ?_
      exact hz_zret (pc := 43) (hz_dec kX12_hasCoins 24 rfl) rfl rfl ⟨by rw [ht]; rfl, rfl, rfl⟩
    · skip
      exact absurd h2 (by decide)
set_option maxHeartbeats 4000000 in
set_option maxRecDepth 100000 in
theorem c_mcHs_l {κ : hz_C} {z : Nat} {M : hz_M} {B : Nat} {cs : List co_C} (h : mcR M B cs) (h8 : 8 ≤ B) (hz : B + 88 ≤ z) {iD : Int64} : ∀ k i, k = cs.length - i → i ≤ cs.length → (∀ j, j < i → decide ((coL cs j).1 = iD) = false) → hz_W κ xX12_hasCoins 0 0 0 (hz_ex (some (.int (hz_b (coHs cs iD)))) z M) 0 0 5 [(4, .int (nI i)), (3, .int (nI 0)), (0, .ref B), (1, .long iD)] [] z M := by
  intro k
  induction k using Nat.strongRecOn with
  | ind k ih =>
  intro i hk hi hs
  obtain ⟨⟨fs, hO, hF⟩, hs53, hle, f1, f2, f3, f4, f5, f6, g1, g2, g3, g4, g5, g6, hX⟩ := id h
  rw [fdB_of hO] at hs53
  refine hz_iload (pc := 5) 0 (hz_dec kX12_hasCoins 4 rfl) rfl ?_
  refine hz_aloadn (pc := 7) 2 (hz_dec kX12_hasCoins 5 rfl) rfl ?_
  refine hz_get (pc := 8) (v := .int (nI (cs.length))) (hz_dec kX12_hasCoins 6 rfl) fo_X12_479 hO h8 (by omega) hs53 ?_
  refine hz_n_ge (pc := 11) (tgt := 42) (hz_dec kX12_hasCoins 7 rfl) (by decide) (by omega) (by omega) (fun h1 => ?_) (fun h1 => ?_)
  · skip
    have e : i = cs.length := by omega
    subst e
    refine hz_iloadn (pc := 42) 1 (hz_dec kX12_hasCoins 23 rfl) rfl ?_
    refine hz_zret (pc := 43) (hz_dec kX12_hasCoins 24 rfl) rfl rfl ⟨?_, rfl, rfl⟩
    unfold coHs
    rw [fsI_no _ hs, decide_eq_false (by omega)]
    rfl
  · skip
    refine hz_iloadn (pc := 14) 1 (hz_dec kX12_hasCoins 8 rfl) rfl ?_
    refine hz_z_ne (pc := 15) (tgt := 42) (hz_dec kX12_hasCoins 9 rfl) (by decide) (by omega) (fun h2 => ?_) (fun h2 => ?_)
    · skip
      exact absurd h2 (by omega)
    · skip
      refine hz_aloadn (pc := 18) 2 (hz_dec kX12_hasCoins 10 rfl) rfl ?_
      refine hz_get (pc := 19) (v := .ref (B + 43)) (hz_dec kX12_hasCoins 11 rfl) fo_X12_140 hO h8 (by omega) (hF.2 47 (by decide) (by decide)) ?_
      refine hz_iload (pc := 22) 0 (hz_dec kX12_hasCoins 12 rfl) rfl ?_
      refine hz_lald (pc := 24) (j := i) (hz_dec kX12_hasCoins 13 rfl) g1 (by omega) (by omega) rfl (by omega) (by decide) ?_
      refine hz_eql (pc := 25) (hX (i) (by omega)).1 ?_
      refine hz_lloadn (pc := 25) 3 (hz_dec kX12_hasCoins 14 rfl) rfl ?_
      refine hz_lcmp (pc := 26) (hz_dec kX12_hasCoins 15 rfl) ?_
      refine hz_if_ne (pc := 27) (tgt := 34) (hz_dec kX12_hasCoins 16 rfl) (by decide) (fun h3 => ?_) (fun h3 => ?_)
      · skip
        refine hz_iconst (pc := 34) (v := nI 0) (hz_dec kX12_hasCoins 19 rfl) (by decide) ?_
        refine hz_istoren (pc := 35) (i := 3) (lo2 := [(3, .int (nI 0)), (4, .int (nI i)), (0, .ref B), (1, .long iD)]) (hz_dec kX12_hasCoins 20 rfl) rfl (by decide) rfl ?_
        refine hz_incN (pc := 36) (i := 4) (lo2 := [(4, .int (nI (i + 1))), (3, .int (nI 0)), (0, .ref B), (1, .long iD)]) 1 (hz_dec kX12_hasCoins 21 rfl) rfl (by decide) rfl ?_
        refine hz_goto (pc := 39) (tgt := 5) (hz_dec kX12_hasCoins 22 rfl) (by decide) ?_
        refine hz_pick (pc := 5) [0, 1, 2, 3] rfl ?_
        refine ih (cs.length - (i + 1)) (by omega) (i + 1) rfl (by omega) (fun j hj => ?_)
        rcases (show j = i ∨ j < i by omega) with rfl | c
        · exact decide_eq_false (fun q => h3 (by rw [q]; exact (lg_cmp_eq _ _).mpr rfl))
        · exact hs j c
      · skip
        refine hz_iconst (pc := 30) (v := nI 1) (hz_dec kX12_hasCoins 17 rfl) (by decide) ?_
        refine hz_goto (pc := 31) (tgt := 35) (hz_dec kX12_hasCoins 18 rfl) (by decide) ?_
        refine hz_istoren (pc := 35) (i := 3) (lo2 := [(3, .int (nI 1)), (4, .int (nI i)), (0, .ref B), (1, .long iD)]) (hz_dec kX12_hasCoins 20 rfl) rfl (by decide) rfl ?_
        refine hz_incN (pc := 36) (i := 4) (lo2 := [(4, .int (nI (i + 1))), (3, .int (nI 1)), (0, .ref B), (1, .long iD)]) 1 (hz_dec kX12_hasCoins 21 rfl) rfl (by decide) rfl ?_
        refine hz_goto (pc := 39) (tgt := 5) (hz_dec kX12_hasCoins 22 rfl) (by decide) ?_
        refine hz_pick (pc := 5) [0, 1, 2, 3] rfl ?_
        refine c_mcHs_1 h h8 hz (by omega) ?_
        unfold coHs
        rw [fsI_at (i := i) (decide_eq_true ((lg_cmp_eq _ _).mp h3)) hs _ (by omega)]
        exact decide_eq_true (by omega)
set_option maxHeartbeats 4000000 in
set_option maxRecDepth 100000 in
theorem c_mcHs {κ : hz_C} {z : Nat} {M : hz_M} {B : Nat} {cs : List co_C} (h : mcR M B cs) (h8 : 8 ≤ B) (hz : B + 88 ≤ z) {iD : Int64} : hz_Mt κ xX12_hasCoins 0 0 0 [.ref B, .long iD] z M (hz_ex (some (.int (hz_b (coHs cs iD)))) z M) := by
  refine hz_ent (lo := [(0, .ref B), (1, .long iD)]) (by decide) (Nat.le_of_ble_eq_true rfl) rfl ?_
  refine hz_iconst (pc := 0) (v := nI 0) (hz_dec kX12_hasCoins 0 rfl) (by decide) ?_
  refine hz_istoren (pc := 1) (i := 3) (lo2 := [(3, .int (nI 0)), (0, .ref B), (1, .long iD)]) (hz_dec kX12_hasCoins 1 rfl) rfl (by decide) rfl ?_
  refine hz_iconst (pc := 2) (v := nI 0) (hz_dec kX12_hasCoins 2 rfl) (by decide) ?_
  refine hz_istore (pc := 3) (i := 4) (lo2 := [(4, .int (nI 0)), (3, .int (nI 0)), (0, .ref B), (1, .long iD)]) (hz_dec kX12_hasCoins 3 rfl) (by decide) rfl ?_
  refine hz_pick (pc := 5) [0, 1, 2, 3] rfl ?_
  exact c_mcHs_l h h8 hz cs.length 0 rfl (by omega) (fun j hj => absurd hj (by omega))
