/-! the class: keys (places 9 .. 19) -/
theorem frl.z {os : List Nat} {M M2 : hz_M} (h : frl 0 os M M2) (c : Nat) (hc : os.elem c = false) : M2 c = M c := by
  have q := h.at c hc
  rwa [Nat.zero_add] at q
theorem frl.zup {o : Nat} {M : hz_M} {e : va_E} {os : List Nat} (s1 : os.elem o = true) : frl 0 os M (va_up M o e) := by
  have q := frl.up (B := 0) (M := M) (e := e) s1
  rwa [Nat.zero_add] at q
theorem frl.zany {a : Nat} {os : List Nat} {M M2 : hz_M} (h : frl 0 os M M2) (ha : ∀ o ∈ os, a ≠ o) : M2 a = M a := h a (fun o ho => by rw [Nat.zero_add]; exact ha o ho)
section HZ2
variable {κ : hz_C} {x : hz_X} {d mc ms : Nat} {P : hz_P} {cn sn pc : Nat} {lo : List (Nat × Value)} {st : List Value} {z : Nat} {M : hz_M}
theorem hz_iald2 {a j n : Nat} {f : Nat → Int32} {i : Int32} (hd : decode x.2.1 pc = .ok (.iaload, 1)) (hM : M a = .inl (0, n, .inl f)) (ha : a < 4 ∨ 8 ≤ a ∧ a < z) (hi : i = nI j) (hj : j < n) (hn : n < 2 ^ 31) (kk : hz_W κ x d mc ms P cn sn (pc + 1) lo (.int (f j) :: st) z M) : hz_W κ x d mc ms P cn sn pc lo (.int i :: .ref a :: st) z M :=
  ha.elim (fun q => hz_ialdS hd hM q hi hj hn kk) (fun q => hz_iald hd hM q.1 q.2 hi hj hn kk)
theorem hz_alen2 {a n : Nat} {f : Nat → Int32} (hd : decode x.2.1 pc = .ok (.arraylength, 1)) (hM : M a = .inl (0, n, .inl f)) (ha : a < 4 ∨ 8 ≤ a ∧ a < z) (kk : hz_W κ x d mc ms P cn sn (pc + 1) lo (.int (nI n) :: st) z M) : hz_W κ x d mc ms P cn sn pc lo (.ref a :: st) z M :=
  ha.elim (fun q => hz_alenS hd hM q kk) (fun q => hz_alen hd hM (by decide) q.1 q.2 kk)
end HZ2
def ck_k (M : hz_M) (z : Nat) : Prop := M 9 = .inr (8, [.ref 10, .ref 11, .ref 12]) ∧ M 13 = .inr (4, [.ref 9, .ref 14, .ref 15, .ref 16, .ref 17, .ref 18, .ref 19]) ∧ 63 ≤ z
def ck_s (M : hz_M) : Prop := (∃ v : Nat → Int32, M 10 = .inl (0, 8, .inl v)) ∧ (∃ u : Nat → Int32, M 11 = .inl (0, 64, .inl u)) ∧ (∃ d : Nat → Int32, M 12 = .inl (1, 32, .inl d)) ∧ (∃ p : Nat → Int64, M 14 = .inl (2, 8, .inr (.inl p))) ∧ (∃ q : Nat → Int32, M 15 = .inl (0, 8, .inl q)) ∧ (∃ q : Nat → Int32, M 16 = .inl (0, 8, .inl q)) ∧ (∃ q : Nat → Int32, M 17 = .inl (1, 10, .inl q)) ∧ (∃ q : Nat → Int32, M 18 = .inl (1, 64, .inl q)) ∧ ∃ q : Nat → Int32, M 19 = .inl (1, 358, .inl q)
theorem ck_k.fr {z : Nat} {os : List Nat} {M M2 : hz_M} (h : ck_k M z) (f : frl 0 os M M2) (h0 : os.elem 9 = false) (h1 : os.elem 13 = false) : ck_k M2 z := ⟨(f.z 9 h0).trans h.1, (f.z 13 h1).trans h.2.1, h.2.2⟩
def ck_F (M : hz_M) (z : Nat) (os : List Nat) (v : Option Value) (Q : hz_M → Prop) : hz_P := fun r z2 M2 => v = r ∧ z = z2 ∧ frl 0 os M M2 ∧ ck_s M2 ∧ Q M2
def ck_v (h : Nat → Int32) (M2 : hz_M) : Prop := ∃ v : Nat → Int32, M2 10 = .inl (0, 8, .inl v) ∧ ∀ j, j < 8 → v j = h j

set_option maxHeartbeats 4000000 in
set_option maxRecDepth 100000 in
theorem c_digF {κ : hz_C} {z : Nat} {M : hz_M} (hk : ck_k M z) (hsc : ck_s M) {b nb at_ n : Nat} {f : Nat → Int32} (hB : M b = .inl (1, nb, .inl f)) (hb8 : 8 ≤ b) (hbz : b < z) (hnb : nb < 2 ^ 24) (hrr : at_ + n ≤ nb) : hz_Mt κ xX8_digest 0 0 0 [.ref 9, .ref b, .int (nI at_), .int (nI n)] z M (ck_F M z [10, 11] none (ck_v (sh_h f at_ n))) := by
  obtain ⟨hO9, hO13, hz⟩ := id hk
  obtain ⟨⟨v10, h10⟩, ⟨u11, h11⟩, ⟨d12, h12⟩, ⟨p14, h14⟩, ⟨q15, h15⟩, ⟨q16, h16⟩, ⟨q17, h17⟩, ⟨q18, h18⟩, ⟨q19, h19⟩⟩ := id hsc
  refine (c_digest hO9 h10 h11 hB ⟨⟨by decide, by omega⟩, ⟨by decide, by omega⟩, ⟨by decide, by omega⟩, hb8, hbz⟩ hnb hrr (by decide)).weak (fun r z2 M2 h => ?_)
  obtain ⟨rfl, rfl, v2, u2, hv2, rfl⟩ := h
  refine ⟨rfl, rfl, (frl.zup (os := [10, 11]) rfl).tr (frl.zup (os := [10, 11]) rfl) rfl rfl, ⟨⟨v2, hz_mne (va_up_self _ _ _) (by decide)⟩, ⟨u2, va_up_self _ _ _⟩, ⟨d12, (hz_mne (hz_mne h12 (by decide)) (by decide))⟩, ⟨p14, (hz_mne (hz_mne h14 (by decide)) (by decide))⟩, ⟨q15, (hz_mne (hz_mne h15 (by decide)) (by decide))⟩, ⟨q16, (hz_mne (hz_mne h16 (by decide)) (by decide))⟩, ⟨q17, (hz_mne (hz_mne h17 (by decide)) (by decide))⟩, ⟨q18, (hz_mne (hz_mne h18 (by decide)) (by decide))⟩, ⟨q19, (hz_mne (hz_mne h19 (by decide)) (by decide))⟩⟩, v2, hz_mne (va_up_self _ _ _) (by decide), hv2⟩
set_option maxHeartbeats 4000000 in
set_option maxRecDepth 100000 in
theorem l_start {κ : hz_C} {z : Nat} {M : hz_M} (hk : ck_k M z) {P : hz_P} {sd : Int64} (K : ∀ M1, frl 0 [10, 11, 14, 17] M M1 → ck_s M1 → (∃ p : Nat → Int64, M1 14 = .inl (2, 8, .inr (.inl p)) ∧ ∀ j, j < 8 → p j = ky_b sd j) → P none z M1) : ∀ k i M1, k = 8 - i → i ≤ 8 → frl 0 [10, 11, 14, 17] M M1 → ck_s M1 → (∃ p : Nat → Int64, M1 14 = .inl (2, 8, .inr (.inl p)) ∧ ∀ j, j < i → p j = ky_b sd j) → hz_W κ xX4_startFrom 1 0 0 P 0 0 2 [(3, .int (nI i)), (0, .ref 13), (1, .long sd)] [] z M1 := by
  intro k
  induction k using Nat.strongRecOn with
  | ind k ih =>
  intro i M1 hk2 hi hf1 hs1 hE
  have hk1 : ck_k M1 z := hk.fr hf1 rfl rfl
  obtain ⟨hO9, hO13, hz⟩ := id hk1
  obtain ⟨⟨v10, h10⟩, ⟨u11, h11⟩, ⟨d12, h12⟩, ⟨p14, h14⟩, ⟨q15, h15⟩, ⟨q16, h16⟩, ⟨q17, h17⟩, ⟨q18, h18⟩, ⟨q19, h19⟩⟩ := id hs1
  obtain ⟨p, hp, hpc⟩ := id hE
  refine hz_iloadn (pc := 2) 0 (hz_dec kX4_startFrom 2 rfl) rfl ?_
  refine hz_bipush (pc := 3) (v := nI 8) (hz_dec kX4_startFrom 3 rfl) (by decide) ?_
  refine hz_n_ge (pc := 5) (tgt := 62) (hz_dec kX4_startFrom 4 rfl) (by decide) (by omega) (by omega) (fun h1 => ?_) (fun h1 => ?_)
  · skip
    have e : i = 8 := by omega
    subst e
    exact hz_vret (pc := 62) (hz_dec kX4_startFrom 34 rfl) rfl (K M1 hf1 hs1 hE)
  · skip
    refine hz_aloadn (pc := 8) 1 (hz_dec kX4_startFrom 5 rfl) rfl ?_
    refine hz_get (pc := 9) (hz_dec kX4_startFrom 6 rfl) fo_X4_22 hO13 (by decide) (by omega) rfl ?_
    refine hz_iconst (pc := 12) (v := nI 0) (hz_dec kX4_startFrom 7 rfl) (by decide) ?_
    refine hz_lloadn (pc := 13) 2 (hz_dec kX4_startFrom 8 rfl) rfl ?_
    refine hz_bipush (pc := 14) (v := nI 8) (hz_dec kX4_startFrom 9 rfl) (by decide) ?_
    refine hz_xS (pc := 16) (As := [.ref 17, .int (nI 0), .long sd, .int (nI 8)]) (st := []) (hz_dec kX4_startFrom 10 rfl) co_X4_36 sc_X0_put (c_put h17 (by decide) (by omega) (by decide) (by decide)) rfl (by decide) ⟨Nat.le_refl _, Nat.le_refl _⟩ (Nat.le_of_ble_eq_true rfl) rfl ?_
    refine hz_aloadn (pc := 19) 1 (hz_dec kX4_startFrom 11 rfl) rfl ?_
    refine hz_get (pc := 20) (hz_dec kX4_startFrom 12 rfl) fo_X4_22 (hz_mne hO13 (by decide)) (by decide) (by omega) rfl ?_
    refine hz_bipush (pc := 23) (v := nI 8) (hz_dec kX4_startFrom 13 rfl) (by decide) ?_
    refine hz_iloadn (pc := 25) 0 (hz_dec kX4_startFrom 14 rfl) rfl ?_
    refine hz_i2b (pc := 26) (hz_dec kX4_startFrom 15 rfl) ?_
    refine hz_bast (pc := 27) (j := 8) (hz_dec kX4_startFrom 16 rfl) (va_up_self _ _ _) (by decide) (by omega) rfl (by omega) (by decide) ?_
    refine hz_mem (pc := 28) (M2 := (va_up M1 17 (.inl (1, 10, .inl (upd (bn_put 0 8 sd q17) 8 (((nI (i)).toInt8.toInt32).toInt8.toInt32)))))) (bx_uu _ _ _ _) ?_
    generalize hL3 : (upd (bn_put 0 8 sd q17) 8 (((nI (i)).toInt8.toInt32).toInt8.toInt32)) = s3
    refine hz_aloadn (pc := 28) 1 (hz_dec kX4_startFrom 17 rfl) rfl ?_
    refine hz_get (pc := 29) (hz_dec kX4_startFrom 18 rfl) fo_X4_32 (hz_mne hO13 (by decide)) (by decide) (by omega) rfl ?_
    refine hz_aloadn (pc := 32) 1 (hz_dec kX4_startFrom 19 rfl) rfl ?_
    refine hz_get (pc := 33) (hz_dec kX4_startFrom 20 rfl) fo_X4_22 (hz_mne hO13 (by decide)) (by decide) (by omega) rfl ?_
    refine hz_iconst (pc := 36) (v := nI 0) (hz_dec kX4_startFrom 21 rfl) (by decide) ?_
    refine hz_bipush (pc := 37) (v := nI 9) (hz_dec kX4_startFrom 22 rfl) (by decide) ?_
    have hkA : ck_k (va_up M1 17 (.inl (1, 10, .inl (s3)))) z := hk1.fr (frl.zup (os := [17]) rfl) rfl rfl
    have hsA : ck_s (va_up M1 17 (.inl (1, 10, .inl (s3)))) := ⟨⟨v10, (hz_mne h10 (by decide))⟩, ⟨u11, (hz_mne h11 (by decide))⟩, ⟨d12, (hz_mne h12 (by decide))⟩, ⟨p14, (hz_mne h14 (by decide))⟩, ⟨q15, (hz_mne h15 (by decide))⟩, ⟨q16, (hz_mne h16 (by decide))⟩, ⟨s3, va_up_self _ _ _⟩, ⟨q18, (hz_mne h18 (by decide))⟩, ⟨q19, (hz_mne h19 (by decide))⟩⟩
    refine hz_callV (pc := 39) (a := 9) (As := [.ref 17, .int (nI 0), .int (nI 9)]) (st := []) (hz_dec kX4_startFrom 23 rfl) co_X4_42 im_X8_digest se_X8_digest rfl (hz_mne hO9 (by decide)) (by decide) (by omega) (c_digF (at_ := 0) (n := 9) hkA hsA (va_up_self _ _ _) (by decide) (by omega) (by decide) (by decide)) rfl (by decide) ⟨Nat.le_refl _, Nat.le_refl _⟩ (Nat.le_of_ble_eq_true rfl) rfl (fun r9 z9 M2 hp9 => ?_)
    obtain ⟨rfl, rfl, hf2, hs2, v2, hv2, hvc2⟩ := hp9
    have e : sh_h s3 0 9 = hs (fun q => if q < 8 then byl sd q else i) 9 := by
      refine hs_of (fun q hq => ?_)
      rw [Nat.zero_add, ← hL3]
      simp only [upd]
      by_cases e8 : q = 8
      · subst e8; rw [if_pos rfl, if_neg (by decide), sb_of (c := i) (by rw [bb_un, un_nI (by omega)]; omega), bb_sb (by omega)]; omega
      have hq8 : q < 8 := by omega
      have h9 := bn_put_l (at_ := 0) (v := sd) (f := q17) hq8
      rw [Nat.zero_add] at h9
      have hb := byl_lt (sd) q
      rw [if_neg e8, if_pos hq8, h9, bb_sb hb]; omega
    have hp2 : M2 14 = .inl (2, 8, .inr (.inl p)) := (hf2.z 14 rfl).trans (hz_mne hp (by decide))
    have hO9b : M2 9 = .inr (8, [.ref 10, .ref 11, .ref 12]) := (hf2.z 9 rfl).trans (hz_mne hO9 (by decide))
    have hO13b : M2 13 = .inr (4, [.ref 9, .ref 14, .ref 15, .ref 16, .ref 17, .ref 18, .ref 19]) := (hf2.z 13 rfl).trans (hz_mne hO13 (by decide))
    refine hz_aloadn (pc := 42) 1 (hz_dec kX4_startFrom 24 rfl) rfl ?_
    refine hz_get (pc := 43) (hz_dec kX4_startFrom 25 rfl) fo_X4_9 hO13b (by decide) (by omega) rfl ?_
    refine hz_iloadn (pc := 46) 0 (hz_dec kX4_startFrom 26 rfl) rfl ?_
    refine hz_aloadn (pc := 47) 1 (hz_dec kX4_startFrom 27 rfl) rfl ?_
    refine hz_get (pc := 48) (hz_dec kX4_startFrom 28 rfl) fo_X4_32 hO13b (by decide) (by omega) rfl ?_
    refine hz_iconst (pc := 51) (v := nI 0) (hz_dec kX4_startFrom 29 rfl) (by decide) ?_
    refine hz_xV (pc := 52) (a := 9) (As := [.int (nI 0)]) (st := [.int (nI i), .ref 14]) (hz_dec kX4_startFrom 30 rfl) co_X4_48 im_X8_limbOf se_X8_limbOf rfl hO9b (by decide) (by omega) (c_limbOf (k := 0) hO9b hv2 ⟨by decide, by omega⟩ ⟨by decide, by omega⟩ (by decide)) rfl (by decide) ⟨Nat.le_refl _, Nat.le_refl _⟩ (Nat.le_of_ble_eq_true rfl) rfl ?_
    have e2 : sh_lim v2 0 = ky_b sd i := by rw [sh_lim_c (by decide) hvc2, e]; rfl
    refine hz_eql (pc := 55) e2 ?_
    refine hz_last (pc := 55) (j := i) (hz_dec kX4_startFrom 31 rfl) hp2 (by decide) (by omega) rfl (by omega) (by decide) ?_
    refine hz_incN (pc := 56) (i := 3) (lo2 := [(3, .int (nI (i + 1))), (0, .ref 13), (1, .long sd)]) 0 (hz_dec kX4_startFrom 32 rfl) rfl (by decide) rfl ?_
    refine hz_goto (pc := 59) (tgt := 2) (hz_dec kX4_startFrom 33 rfl) (by decide) ?_
    refine hz_pick (pc := 2) [0, 1, 2] rfl ?_
    obtain ⟨⟨x10, y10⟩, ⟨x11, y11⟩, ⟨x12, y12⟩, -, ⟨x15, y15⟩, ⟨x16, y16⟩, ⟨x17, y17⟩, ⟨x18, y18⟩, ⟨x19, y19⟩⟩ := hs2
    refine ih (8 - (i + 1)) (by omega) (i + 1) _ rfl (by omega) (((hf1.tr (os3 := [10, 11, 14, 17]) (frl.zup (os := [17]) rfl) rfl rfl).tr (os3 := [10, 11, 14, 17]) hf2 rfl rfl).tr (frl.zup (os := [14]) rfl) rfl rfl) ⟨⟨x10, hz_mne y10 (by decide)⟩, ⟨x11, hz_mne y11 (by decide)⟩, ⟨x12, hz_mne y12 (by decide)⟩, ⟨_, va_up_self _ _ _⟩, ⟨x15, hz_mne y15 (by decide)⟩, ⟨x16, hz_mne y16 (by decide)⟩, ⟨x17, hz_mne y17 (by decide)⟩, ⟨x18, hz_mne y18 (by decide)⟩, ⟨x19, hz_mne y19 (by decide)⟩⟩ ⟨_, va_up_self _ _ _, fun j hj => ?_⟩
    simp only [vp_updL]
    split
    · next e => subst e; rfl
    · exact hpc j (by omega)
set_option maxHeartbeats 4000000 in
set_option maxRecDepth 100000 in
theorem c_start {κ : hz_C} {z : Nat} {M : hz_M} (hk : ck_k M z) (hsc : ck_s M) {sd : Int64} : hz_Mt κ xX4_startFrom 1 0 0 [.ref 13, .long sd] z M (ck_F M z [10, 11, 14, 17] none (fun M1 => ∃ p : Nat → Int64, M1 14 = .inl (2, 8, .inr (.inl p)) ∧ ∀ j, j < 8 → p j = ky_b sd j)) := by
  refine hz_ent (lo := [(0, .ref 13), (1, .long sd)]) (by decide) (Nat.le_of_ble_eq_true rfl) rfl ?_
  obtain ⟨hO9, hO13, hz⟩ := id hk
  obtain ⟨⟨v10, h10⟩, ⟨u11, h11⟩, ⟨d12, h12⟩, ⟨p14, h14⟩, ⟨q15, h15⟩, ⟨q16, h16⟩, ⟨q17, h17⟩, ⟨q18, h18⟩, ⟨q19, h19⟩⟩ := id hsc
  refine hz_iconst (pc := 0) (v := nI 0) (hz_dec kX4_startFrom 0 rfl) (by decide) ?_
  refine hz_istoren (pc := 1) (i := 3) (lo2 := [(3, .int (nI 0)), (0, .ref 13), (1, .long sd)]) (hz_dec kX4_startFrom 1 rfl) rfl (by decide) rfl ?_
  refine hz_pick (pc := 2) [0, 1, 2] rfl ?_
  exact l_start hk (fun M1 h1 h2 h3 => ⟨rfl, rfl, h1, h2, h3⟩) 8 0 M rfl (by omega) frl.rf hsc ⟨p14, h14, fun j hj => absurd hj (by omega)⟩
