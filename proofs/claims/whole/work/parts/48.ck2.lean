/-! the class: filling bytes, a part behind steps, parts into bytes -/
set_option maxHeartbeats 4000000 in
set_option maxRecDepth 100000 in
theorem c_range {κ : hz_C} {z : Nat} {M : hz_M} {n a e : Nat} (h1 : a ≤ e) (h2 : e ≤ n) (hn : n < 2 ^ 31) : hz_Mt κ xJ7_rangeCheck_23922 0 0 0 [.int (nI n), .int (nI a), .int (nI e)] z M (hz_ex none z M) := by
  refine hz_ent (lo := [(0, .int (nI n)), (1, .int (nI a)), (2, .int (nI e))]) (by decide) (Nat.le_of_ble_eq_true rfl) rfl ?_
  refine hz_iloadn (pc := 0) 1 (hz_dec kJ7_rangeCheck_23922 0 rfl) rfl ?_
  refine hz_iloadn (pc := 1) 2 (hz_dec kJ7_rangeCheck_23922 1 rfl) rfl ?_
  refine hz_n_le (pc := 2) (tgt := 46) (hz_dec kJ7_rangeCheck_23922 2 rfl) (by decide) (by omega) (by omega) (fun q1 => ?_) (fun q1 => ?_)
  · skip
    refine hz_iloadn (pc := 46) 1 (hz_dec kJ7_rangeCheck_23922 21 rfl) rfl ?_
    refine hz_z_ge (pc := 47) (tgt := 59) (hz_dec kJ7_rangeCheck_23922 22 rfl) (by decide) (by omega) ?_
    refine hz_iloadn (pc := 59) 2 (hz_dec kJ7_rangeCheck_23922 28 rfl) rfl ?_
    refine hz_iloadn (pc := 60) 0 (hz_dec kJ7_rangeCheck_23922 29 rfl) rfl ?_
    refine hz_n_le (pc := 61) (tgt := 73) (hz_dec kJ7_rangeCheck_23922 30 rfl) (by decide) (by omega) (by omega) (fun q3 => ?_) (fun q3 => ?_)
    · skip
      exact hz_vret (pc := 73) (hz_dec kJ7_rangeCheck_23922 36 rfl) rfl ⟨rfl, rfl, rfl⟩
    · skip
      exact absurd h2 (by omega)
  · skip
    exact absurd h1 (by omega)
set_option maxHeartbeats 4000000 in
set_option maxRecDepth 100000 in
theorem c_fillB_l {κ : hz_C} {z : Nat} {M : hz_M} {b n : Nat} {f0 : Nat → Int32} (hM : M b = .inl (1, n, .inl f0)) (ha : 8 ≤ b) (hz : b < z) (hn : n < 2 ^ 30) {a e : Nat} (hae : a ≤ e) (hen : e ≤ n) {P : hz_P} (K : ∀ f : Nat → Int32, (∀ j, j < n → f j = if a ≤ j ∧ j < e then 0 else f0 j) → P none z (va_up M b (.inl (1, n, .inl f)))) : ∀ k i f, k = e - i → a ≤ i → i ≤ e → (∀ j, j < n → f j = if a ≤ j ∧ j < i then 0 else f0 j) → hz_W κ xJ7_fill_eb02e 1 0 0 P 0 0 10 [(4, .int (nI i)), (0, .ref b), (2, .int (nI e)), (3, .int (nI 0))] [] z (va_up M b (.inl (1, n, .inl f))) := by
  intro k
  induction k using Nat.strongRecOn with
  | ind k ih =>
  intro i f hk hi0 hi hs
  refine hz_iload (pc := 10) 0 (hz_dec kJ7_fill_eb02e 7 rfl) rfl ?_
  refine hz_iloadn (pc := 12) 2 (hz_dec kJ7_fill_eb02e 8 rfl) rfl ?_
  refine hz_n_ge (pc := 13) (tgt := 27) (hz_dec kJ7_fill_eb02e 9 rfl) (by decide) (by omega) (by omega) (fun h1 => ?_) (fun h1 => ?_)
  · skip
    have e3 : i = e := by omega
    subst e3
    exact hz_vret (pc := 27) (hz_dec kJ7_fill_eb02e 16 rfl) rfl (K f hs)
  · skip
    refine hz_aloadn (pc := 16) 1 (hz_dec kJ7_fill_eb02e 10 rfl) rfl ?_
    refine hz_iload (pc := 17) 0 (hz_dec kJ7_fill_eb02e 11 rfl) rfl ?_
    refine hz_iloadn (pc := 19) 3 (hz_dec kJ7_fill_eb02e 12 rfl) rfl ?_
    refine hz_bast (pc := 20) (j := i) (hz_dec kJ7_fill_eb02e 13 rfl) (va_up_self _ _ _) ha hz rfl (by omega) (by omega) ?_
    refine hz_mem (pc := 21) (M2 := (va_up M b (.inl (1, n, .inl (upd f i ((nI (0)).toInt8.toInt32)))))) (bx_uu _ _ _ _) ?_
    refine hz_incN (pc := 21) (i := 4) (lo2 := [(4, .int (nI (i + 1))), (0, .ref b), (2, .int (nI e)), (3, .int (nI 0))]) 0 (hz_dec kJ7_fill_eb02e 14 rfl) rfl (by decide) rfl ?_
    refine hz_goto (pc := 24) (tgt := 10) (hz_dec kJ7_fill_eb02e 15 rfl) (by decide) ?_
    refine hz_pick (pc := 10) [0, 1, 2, 3] rfl ?_
    refine ih (e - (i + 1)) (by omega) (i + 1) _ rfl (by omega) (by omega) (fun j hj => ?_)
    simp only [upd]
    split
    · next q => rw [if_pos (by omega)]; rfl
    · next q =>
      rw [hs j hj]
      by_cases r : a ≤ j ∧ j < i
      · rw [if_pos r, if_pos (by omega)]
      · rw [if_neg r, if_neg (by omega)]
def fb_P (M : hz_M) (z b n a e : Nat) (f0 : Nat → Int32) : hz_P := fun r z2 M2 => none = r ∧ z = z2 ∧ ∃ f : Nat → Int32, (∀ j, j < n → f j = if a ≤ j ∧ j < e then 0 else f0 j) ∧ va_up M b (.inl (1, n, .inl f)) = M2
set_option maxHeartbeats 4000000 in
set_option maxRecDepth 100000 in
theorem c_fillB {κ : hz_C} {z : Nat} {M : hz_M} {b n : Nat} {f0 : Nat → Int32} (hM : M b = .inl (1, n, .inl f0)) (ha : 8 ≤ b) (hz : b < z) (hn : n < 2 ^ 30) {a e : Nat} (hae : a ≤ e) (hen : e ≤ n) : hz_Mt κ xJ7_fill_eb02e 1 0 0 [.ref b, .int (nI a), .int (nI e), .int (nI 0)] z M (fb_P M z b n a e f0) := by
  refine hz_ent (lo := [(0, .ref b), (1, .int (nI a)), (2, .int (nI e)), (3, .int (nI 0))]) (by decide) (Nat.le_of_ble_eq_true rfl) rfl ?_
  refine hz_aloadn (pc := 0) 0 (hz_dec kJ7_fill_eb02e 0 rfl) rfl ?_
  refine hz_alen (pc := 1) (hz_dec kJ7_fill_eb02e 1 rfl) hM (by decide) ha hz ?_
  refine hz_iloadn (pc := 2) 1 (hz_dec kJ7_fill_eb02e 2 rfl) rfl ?_
  refine hz_iloadn (pc := 3) 2 (hz_dec kJ7_fill_eb02e 3 rfl) rfl ?_
  refine hz_xS (pc := 4) (As := [.int (nI n), .int (nI a), .int (nI e)]) (st := []) (hz_dec kJ7_fill_eb02e 4 rfl) co_J7_13 sc_J7_rangeCheck_23922 (c_range hae hen (by omega)) rfl (by decide) ⟨Nat.le_refl _, Nat.le_refl _⟩ (Nat.le_of_ble_eq_true rfl) rfl ?_
  refine hz_iloadn (pc := 7) 1 (hz_dec kJ7_fill_eb02e 5 rfl) rfl ?_
  refine hz_istore (pc := 8) (i := 4) (lo2 := [(4, .int (nI a)), (0, .ref b), (1, .int (nI a)), (2, .int (nI e)), (3, .int (nI 0))]) (hz_dec kJ7_fill_eb02e 6 rfl) (by decide) rfl ?_
  refine hz_pick (pc := 10) [0, 1, 3, 4] rfl ?_
  refine hz_mem (hz_upid hM).symm ?_
  exact c_fillB_l hM ha hz hn hae hen (fun f h => ⟨rfl, rfl, f, h, rfl⟩) (e - a) a f0 rfl (by omega) hae (fun j hj => by rw [if_neg (by omega)])
/-- a contract out of the walk, for a method of a class that has methods of its own kind beside -/
theorem hz_entF {κ : hz_C} {x : hz_X} {d mc ms z : Nat} {as : List Value} {M : hz_M} {P : hz_P} {lo : List (Nat × Value)} (hy : plainFor x.1 = true) (hn : (lg_sl as).length ≤ x.2.2.1) (hlo : lv_args 0 as = lo)
    (k : hz_W κ x d mc ms P 0 0 0 lo [] z M) : hz_Mt κ x d mc ms as z M P := by
  obtain ⟨y, cc, mL, rt⟩ := x
  unfold hz_Mt
  refine MetFree.of_bodySF (code := cc) (maxLocals := mL) (ret := rt) hy ?_ ?_
  · intro args s m h hn2
    obtain ⟨meth, c, h1, h2, h3, h4, h5, h6, -, -⟩ := Cond.code_spec hn2 (atoms_spec (ws := hz_ws (y, cc, mL, rt)) h _ List.mem_cons_self)
    exact ⟨meth, c, h1, h2, h3, h4, h5, h6⟩
  · intro p e s m args below meth c s₁ B hml hv _
    have hh0 : s₁.heap = s.heap := by rw [B.state]; rfl
    obtain ⟨rfl, hwd, hK, hZ, hkw⟩ := hv
    have hts := atoms_spec (ws := hz_ws (y, cc, mL, rt)) B.pre
    have hl := lv_entry (as.map (hz_rv κ)) (n := mL) (by rw [hz_slen]; exact hn)
    rw [hz_args, hlo] at hl
    have q := k p e s m _ below meth c s.heap [] _ ⟨B.exec, B.bytes, hml, findClass_of_methodNamed B.named, hts, B.returns, B.notSynchronized, (name_of_methodNamed B.named B.method).1, hkw, hK, hZ⟩ hwd va_S.rf hl
    rw [lg_entry_eq]
    obtain ⟨t, a1, o, b1, b2, b3⟩ := q s₁ hh0 (Stand.of_body B)
    exact ⟨t, o, a1, b1, b2, ⟨b3.1, b3.2⟩⟩
set_option maxHeartbeats 4000000 in
set_option maxRecDepth 100000 in
theorem c_min {κ : hz_C} {z : Nat} {M : hz_M} {a e : Nat} (h1 : a < 2 ^ 31) (h2 : e < 2 ^ 31) : hz_Mt κ xJ9_min_7cf53 0 0 0 [.int (nI a), .int (nI e)] z M (hz_ex (some (.int (nI (min a e)))) z M) := by
  refine hz_entF (lo := [(0, .int (nI a)), (1, .int (nI e))]) (by decide +kernel) (Nat.le_of_ble_eq_true rfl) rfl ?_
  refine hz_iloadn (pc := 0) 0 (hz_dec kJ9_min_7cf53 0 rfl) rfl ?_
  refine hz_iloadn (pc := 1) 1 (hz_dec kJ9_min_7cf53 1 rfl) rfl ?_
  refine hz_n_gt (pc := 2) (tgt := 9) (hz_dec kJ9_min_7cf53 2 rfl) (by decide) (by omega) (by omega) (fun q1 => ?_) (fun q1 => ?_)
  · skip
    refine hz_iloadn (pc := 9) 1 (hz_dec kJ9_min_7cf53 5 rfl) rfl ?_
    exact hz_iret (pc := 10) (hz_dec kJ9_min_7cf53 6 rfl) rfl ⟨by rw [Nat.min_eq_right (by omega)], rfl, rfl⟩
  · skip
    refine hz_iloadn (pc := 5) 0 (hz_dec kJ9_min_7cf53 3 rfl) rfl ?_
    refine hz_goto (pc := 6) (tgt := 10) (hz_dec kJ9_min_7cf53 4 rfl) (by decide) ?_
    exact hz_iret (pc := 10) (hz_dec kJ9_min_7cf53 6 rfl) rfl ⟨by rw [Nat.min_eq_left (by omega)], rfl, rfl⟩
set_option maxHeartbeats 4000000 in
set_option maxRecDepth 100000 in
theorem c_partB {κ : hz_C} {z : Nat} {M : hz_M} (hk : ck_k M z) (hsc : ck_s M) {sd : Int64} {i n : Nat} (hi : i < 8) (hn : n ≤ 15) : hz_Mt κ xX4_partBehind 2 0 0 [.ref 13, .long sd, .int (nI i), .int (nI n)] z M (ck_F M z [10, 11, 14, 16, 17] (some (.long (ky_ss (ky_b sd i) i 0 n))) (fun _ => True)) := by
  refine hz_ent (lo := [(0, .ref 13), (1, .long sd), (3, .int (nI i)), (4, .int (nI n))]) (by decide) (Nat.le_of_ble_eq_true rfl) rfl ?_
  refine hz_stat (fun hT => ?_)
  obtain ⟨hO9, hO13, hz⟩ := id hk
  obtain ⟨⟨v10, h10⟩, ⟨u11, h11⟩, ⟨d12, h12⟩, ⟨p14, h14⟩, ⟨q15, h15⟩, ⟨q16, h16⟩, ⟨q17, h17⟩, ⟨q18, h18⟩, ⟨q19, h19⟩⟩ := id hsc
  refine hz_iloadn (pc := 0) 2 (hz_dec kX4_partBehind 0 rfl) rfl ?_
  refine hz_z_lt (pc := 1) (tgt := 10) (hz_dec kX4_partBehind 1 rfl) (by decide) (by omega) ?_
  refine hz_iloadn (pc := 4) 2 (hz_dec kX4_partBehind 2 rfl) rfl ?_
  refine hz_bipush (pc := 5) (v := nI 8) (hz_dec kX4_partBehind 3 rfl) (by decide) ?_
  refine hz_n_lt (pc := 7) (tgt := 12) (hz_dec kX4_partBehind 4 rfl) (by decide) (by omega) (by omega) (fun q2 => ?_) (fun q2 => ?_)
  · skip
    refine hz_aloadn (pc := 12) 0 (hz_dec kX4_partBehind 7 rfl) rfl ?_
    refine hz_get (pc := 13) (hz_dec kX4_partBehind 8 rfl) fo_X4_19 hO13 (by decide) (by omega) rfl ?_
    refine hz_iconst (pc := 16) (v := nI 0) (hz_dec kX4_partBehind 9 rfl) (by decide) ?_
    refine hz_callS (pc := 17) (As := [.ref 16, .int (nI 0)]) (st := []) (hz_dec kX4_partBehind 10 rfl) co_X4_52 sc_J7_fill_53178 (c_fillI (v := nI 0) h16 (by decide) (by omega) (by decide)) rfl (by decide) ⟨Nat.le_refl _, Nat.le_refl _⟩ (Nat.le_of_ble_eq_true rfl) rfl (fun r9 z9 M9 hp9 => ?_)
    obtain ⟨rfl, rfl, f1, hf1, rfl⟩ := hp9
    refine hz_aloadn (pc := 20) 0 (hz_dec kX4_partBehind 11 rfl) rfl ?_
    refine hz_get (pc := 21) (hz_dec kX4_partBehind 12 rfl) fo_X4_19 (hz_mne hO13 (by decide)) (by decide) (by omega) rfl ?_
    refine hz_iloadn (pc := 24) 2 (hz_dec kX4_partBehind 13 rfl) rfl ?_
    refine hz_iload (pc := 25) 3 (hz_dec kX4_partBehind 14 rfl) rfl ?_
    refine hz_iast (pc := 27) (j := i) (hz_dec kX4_partBehind 15 rfl) (va_up_self _ _ _) (by decide) (by omega) rfl (by omega) (by decide) ?_
    refine hz_mem (pc := 28) (M2 := (va_up M 16 (.inl (0, 8, .inl (upd f1 i ((nI (n)))))))) (bx_uu _ _ _ _) ?_
    have hkA : ck_k (va_up M 16 (.inl (0, 8, .inl (upd f1 i ((nI (n))))))) z := hk.fr (frl.zup (os := [16]) rfl) rfl rfl
    have hsA : ck_s (va_up M 16 (.inl (0, 8, .inl (upd f1 i ((nI (n))))))) := ⟨⟨v10, (hz_mne h10 (by decide))⟩, ⟨u11, (hz_mne h11 (by decide))⟩, ⟨d12, (hz_mne h12 (by decide))⟩, ⟨p14, (hz_mne h14 (by decide))⟩, ⟨q15, (hz_mne h15 (by decide))⟩, ⟨_, va_up_self _ _ _⟩, ⟨q17, (hz_mne h17 (by decide))⟩, ⟨q18, (hz_mne h18 (by decide))⟩, ⟨q19, (hz_mne h19 (by decide))⟩⟩
    refine hz_aloadn (pc := 28) 0 (hz_dec kX4_partBehind 16 rfl) rfl ?_
    refine hz_lloadn (pc := 29) 1 (hz_dec kX4_partBehind 17 rfl) rfl ?_
    refine hz_callV (pc := 30) (a := 13) (As := [.long sd]) (st := []) (hz_dec kX4_partBehind 18 rfl) co_X4_58 im_X4_startFrom se_X4_startFrom rfl (hz_mne hO13 (by decide)) (by decide) (by omega) (c_start (sd := sd) hkA hsA) rfl (by decide) ⟨Nat.le_refl _, Nat.le_refl _⟩ (Nat.le_of_ble_eq_true rfl) rfl (fun r9 z9 M1 hp9 => ?_)
    obtain ⟨rfl, rfl, hf2, hs2, p1, hp1, hpc1⟩ := hp9
    have hk1 : ck_k M1 z := hkA.fr hf2 rfl rfl
    refine hz_aloadn (pc := 33) 0 (hz_dec kX4_partBehind 19 rfl) rfl ?_
    refine hz_gets (pc := 34) (k := 2) (hz_dec kX4_partBehind 20 rfl) (by decide) gs_X4_62 ?_
    refine hz_aloadn (pc := 37) 0 (hz_dec kX4_partBehind 21 rfl) rfl ?_
    refine hz_get (pc := 38) (hz_dec kX4_partBehind 22 rfl) fo_X4_19 hk1.2.1 (by decide) (by omega) rfl ?_
    have s2 : M1 2 = .inl (0, 8, .inl (hz_sf 2)) := (hf2.z 2 rfl).trans (hz_mne (hT 2 (by decide)) (by decide))
    have s16 : M1 16 = .inl (0, 8, .inl (upd f1 i (nI n))) := (hf2.z 16 rfl).trans (va_up_self _ _ _)
    refine hz_callV (pc := 41) (a := 13) (As := [.ref 2, .ref 16]) (st := []) (hz_dec kX4_partBehind 23 rfl) co_X4_65 im_X4_climb se_X4_climb rfl hk1.2.1 (by decide) (by omega) (c_climb (a := fun _ => 0) (b := fun x => if x = i then n else 0) (p0 := p1) hk1 hs2 s2 s16 (Or.inl (by decide)) (Or.inr ⟨by decide, by omega⟩) (by decide) (by decide) st_0 (fun x hx => ⟨by simp only [upd]; split; rfl; exact hf1 x hx, by show (if x = i then n else 0) ≤ 15; split <;> omega⟩) hp1) rfl (by decide) ⟨Nat.le_refl _, Nat.le_refl _⟩ (Nat.le_of_ble_eq_true rfl) rfl (fun r9 z9 M2 hp9 => ?_)
    obtain ⟨rfl, rfl, hf3, hs3, p2, hp2, hpc2⟩ := hp9
    have hk2 : ck_k M2 z := hk1.fr hf3 rfl rfl
    refine hz_aloadn (pc := 44) 0 (hz_dec kX4_partBehind 24 rfl) rfl ?_
    refine hz_get (pc := 45) (hz_dec kX4_partBehind 25 rfl) fo_X4_9 hk2.2.1 (by decide) (by omega) rfl ?_
    refine hz_iloadn (pc := 48) 2 (hz_dec kX4_partBehind 26 rfl) rfl ?_
    refine hz_lald (pc := 49) (j := i) (hz_dec kX4_partBehind 27 rfl) hp2 (by decide) (by omega) rfl (by omega) (by decide) ?_
    have e : p2 i = ky_ss (ky_b sd i) i 0 n := by rw [hpc2 i hi, hpc1 i hi]; show ky_ss _ _ 0 ((if i = i then n else 0) - 0) = _; rw [if_pos rfl, Nat.sub_zero]
    exact hz_lret (pc := 50) (hz_dec kX4_partBehind 28 rfl) rfl ⟨by rw [e], rfl, ((frl.zup (os := [16]) rfl).tr (os3 := [10, 11, 14, 16, 17]) hf2 rfl rfl).tr hf3 rfl rfl, hs3, trivial⟩
  · skip
    exact absurd q2 (by omega)
