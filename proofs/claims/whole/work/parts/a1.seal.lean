/-! Judge: sealOf, putRoot; Node.write -/
/-- what is sealed: a place of two bytes, the block -/
def slS (l : by_L) (p : Nat) : by_L := sb_b (p / 256 % 256) :: sb_b (p % 256) :: l
theorem slS_len (l : by_L) (p : Nat) : (slS l p).length = l.length + 2 := rfl
theorem put2 {a p : Nat} (hp : p < 65536) {f : Nat → Int32} : bn_put a 2 (nI p).toInt64 f a = sb_b (p / 256 % 256) ∧ bn_put a 2 (nI p).toInt64 f (a + 1) = sb_b (p % 256) := by
  have e : uL (nI p).toInt64 = p := by rw [nI_l (by omega), uL_lN (by omega)]
  have q0 := bn_put_in (at_ := a) 2 (nI p).toInt64 f 0 (by decide) (by decide)
  have q1 := bn_put_in (at_ := a) 2 (nI p).toInt64 f 1 (by decide) (by decide)
  rw [Nat.add_zero] at q0
  rw [q0, q1]
  have b0 := bb_shrL (nI p).toInt64 (k := 8) (by decide)
  have b1 := bb_shrL (nI p).toInt64 (k := 0) (by decide)
  rw [e] at b0 b1
  exact ⟨sb_of (b0.trans (by rfl)), sb_of (b1.trans (by rw [Nat.pow_zero, Nat.div_one]))⟩
/-- the seal -/
def slI (l : by_L) (p : Nat) : Int32 := shS (slS l p) 0
theorem juS.fs {M M2 : hz_M} {z : Nat} (h : juS M z) (e : ∀ q, 20 ≤ q → q < 39 → ¬ q = 36 → M2 q = M q) (hk : ck_k M2 z) (hs : ck_s M2) {g : Nat → Int32} (h36 : M2 36 = .inl (1, 2947, .inl g)) : juS M2 z := by
  obtain ⟨⟨bf, fe, hj⟩, ⟨s0, h34⟩, ⟨r0, h35⟩, -, ⟨h0, h37⟩, ⟨i0, h38⟩, ⟨cs0, hc⟩, -, -, hw⟩ := h
  exact ⟨⟨bf, fe, (e 25 (by decide) (by decide) (by decide)).trans hj⟩, ⟨_, (e 34 (by decide) (by decide) (by decide)).trans h34⟩, ⟨_, (e 35 (by decide) (by decide) (by decide)).trans h35⟩, ⟨_, h36⟩, ⟨_, (e 37 (by decide) (by decide) (by decide)).trans h37⟩, ⟨_, (e 38 (by decide) (by decide) (by decide)).trans h38⟩, ⟨_, hc.fr (fun q q1 q2 => e q (by omega) (by omega) (by omega))⟩, hk, hs, hw.fs (fun q q1 q2 => e q (by omega) (by omega) (by omega))⟩
set_option maxHeartbeats 4000000 in
set_option maxRecDepth 100000 in
theorem c_seal {κ : hz_C} {z : Nat} {M : hz_M} (hJ : juS M z) {b n : Nat} {f : Nat → Int32} {l : by_L} (hB : M b = .inl (1, n, .inl f)) (hb8 : 39 ≤ b) (hbz : b < z) (hn : n < 2 ^ 24) (hA : isA f 0 l) (hln : l.length ≤ n) (hl9 : l.length ≤ 2945) {p : Nat} (hp : p < 65536) : hz_Mt κ xX3_sealOf 2 0 0 [.ref 25, .ref b, .int (nI l.length), .int (nI p)] z M (fun r z2 M2 => some (.int (slI l p)) = r ∧ z = z2 ∧ frS [(9, 20), (36, 37)] M M2 ∧ juS M2 z) := by
  refine hz_ent (lo := [(0, .ref 25), (1, .ref b), (2, .int (nI (l.length))), (3, .int (nI p))]) (by decide) (Nat.le_of_ble_eq_true rfl) rfl ?_
  obtain ⟨⟨bf, fe, hj⟩, ⟨s0, h34⟩, ⟨r0, h35⟩, ⟨g36, h36⟩, ⟨h0, h37⟩, ⟨i0, h38⟩, ⟨cs0, hc⟩, hk, hs, hw⟩ := id hJ
  obtain ⟨-, -, hz63⟩ := id hk
  refine hz_aloadn (pc := 0) 0 (hz_dec kX3_sealOf 0 rfl) rfl ?_
  refine hz_get (pc := 1) (hz_dec kX3_sealOf 1 rfl) fo_X3_26 hj (by omega) (by omega) rfl ?_
  refine hz_iconst (pc := 4) (v := nI 0) (hz_dec kX3_sealOf 2 rfl) (by decide) ?_
  refine hz_iloadn (pc := 5) 3 (hz_dec kX3_sealOf 3 rfl) rfl ?_
  refine hz_i2l (pc := 6) (hz_dec kX3_sealOf 4 rfl) ?_
  refine hz_iconst (pc := 7) (v := nI 2) (hz_dec kX3_sealOf 5 rfl) (by decide) ?_
  refine hz_xS (pc := 8) (As := [.ref 36, .int (nI 0), .long ((nI (p)).toInt64), .int (nI 2)]) (st := []) (hz_dec kX3_sealOf 6 rfl) co_X3_249 sc_X0_put (c_put h36 (by decide) (by omega) (by decide) (by decide)) rfl (by decide) ⟨Nat.le_refl _, Nat.le_refl _⟩ (Nat.le_of_ble_eq_true rfl) rfl ?_
  refine hz_aloadn (pc := 11) 1 (hz_dec kX3_sealOf 7 rfl) rfl ?_
  refine hz_iconst (pc := 12) (v := nI 0) (hz_dec kX3_sealOf 8 rfl) (by decide) ?_
  refine hz_aloadn (pc := 13) 0 (hz_dec kX3_sealOf 9 rfl) rfl ?_
  refine hz_get (pc := 14) (hz_dec kX3_sealOf 10 rfl) fo_X3_26 (hz_mne hj (by omega)) (by omega) (by omega) rfl ?_
  refine hz_iconst (pc := 17) (v := nI 2) (hz_dec kX3_sealOf 11 rfl) (by decide) ?_
  refine hz_iloadn (pc := 18) 2 (hz_dec kX3_sealOf 12 rfl) rfl ?_
  refine hz_xS (pc := 19) (As := [.ref b, .int (nI 0), .ref 36, .int (nI 2), .int (nI (l.length))]) (st := []) (hz_dec kX3_sealOf 13 rfl) co_X3_245 sc_X0_copy (c_copy (hz_mne hB (by omega)) (by omega) hbz (by omega) (va_up_self _ _ _) (by decide) (by omega) (by decide) (by omega) (by omega)) rfl (by decide) ⟨Nat.le_refl _, Nat.le_refl _⟩ (Nat.le_of_ble_eq_true rfl) rfl ?_
  refine hz_mem (pc := 22) (M2 := (va_up M 36 (.inl (1, 2947, .inl (va_cpy f (bn_put 0 2 (nI p).toInt64 g36) 0 2 l.length))))) (bx_uu _ _ _ _) ?_
  refine hz_aloadn (pc := 22) 0 (hz_dec kX3_sealOf 14 rfl) rfl ?_
  refine hz_get (pc := 23) (hz_dec kX3_sealOf 15 rfl) fo_X3_36 (hz_mne hj (by omega)) (by omega) (by omega) rfl ?_
  refine hz_aloadn (pc := 26) 0 (hz_dec kX3_sealOf 16 rfl) rfl ?_
  refine hz_get (pc := 27) (hz_dec kX3_sealOf 17 rfl) fo_X3_26 (hz_mne hj (by omega)) (by omega) (by omega) rfl ?_
  refine hz_iconst (pc := 30) (v := nI 0) (hz_dec kX3_sealOf 18 rfl) (by decide) ?_
  refine hz_iconst (pc := 31) (v := nI 2) (hz_dec kX3_sealOf 19 rfl) (by decide) ?_
  refine hz_iloadn (pc := 32) 2 (hz_dec kX3_sealOf 20 rfl) rfl ?_
  refine hz_addN (pc := 33) (hz_dec kX3_sealOf 21 rfl) ?_
  have hk0 : ck_k (va_up M 36 (.inl (1, 2947, .inl (va_cpy f (bn_put 0 2 (nI p).toInt64 g36) 0 2 l.length)))) z := hk.up (by decide)
  have hs0 : ck_s (va_up M 36 (.inl (1, 2947, .inl (va_cpy f (bn_put 0 2 (nI p).toInt64 g36) 0 2 l.length)))) := hs.up (by decide)
  refine hz_callV (pc := 34) (a := 9) (As := [.ref 36, .int (nI 0), .int (nI (2 + (l.length)))]) (st := []) (hz_dec kX3_sealOf 22 rfl) co_X3_48 im_X8_digest se_X8_digest rfl (hz_mne hk.1 (by omega)) (by omega) (by omega) (c_digF (n := 2 + l.length) hk0 hs0 (va_up_self _ _ _) (by decide) (by omega) (by decide) (by omega)) rfl (by decide) ⟨Nat.le_refl _, Nat.le_refl _⟩ (Nat.le_of_ble_eq_true rfl) rfl (fun r9 z9 M1 hp9 => ?_)
  obtain ⟨rfl, rfl, hf1, hs1, v1, hv1, hvc1⟩ := hp9
  have hA9 : isA (va_cpy f (bn_put 0 2 (nI p).toInt64 g36) 0 2 l.length) 0 (slS l p) := by
    intro j hj
    rw [slS_len] at hj
    rw [Nat.zero_add]
    unfold va_cpy
    rcases (show j = 0 ∨ j = 1 ∨ 2 ≤ j by omega) with e | e | e
    · rw [e, if_neg (by omega)]; exact (put2 (a := 0) hp).1
    · rw [e, if_neg (by omega)]; exact (put2 (a := 0) hp).2
    · rw [if_pos (by omega), Nat.zero_add]; have q := hA (j - 2) (by omega); rw [Nat.zero_add] at q; rw [q]; obtain ⟨i, rfl⟩ : ∃ i, j = i + 2 := ⟨j - 2, by omega⟩; rfl
  rw [shS_of hA9 (by rw [slS_len, Nat.add_comm])] at hvc1
  have hk1 : ck_k M1 z := hk0.fr hf1 rfl rfl
  have hF1 : frS [(9, 20), (36, 37)] (va_up M 36 (.inl (1, 2947, .inl (va_cpy f (bn_put 0 2 (nI p).toInt64 g36) 0 2 l.length)))) M1 := hf1.S0 rfl
  have hF0 : frS [(9, 20), (36, 37)] M (va_up M 36 (.inl (1, 2947, .inl (va_cpy f (bn_put 0 2 (nI p).toInt64 g36) 0 2 l.length)))) := frS.up (by simp only [outS, and_true]; omega)
  have hF2 := hF0.tr hF1
  have hj1 : juO M1 bf fe := (hF2.at2 (by omega)).trans hj
  have h361 : M1 36 = .inl (1, 2947, .inl (va_cpy f (bn_put 0 2 (nI p).toInt64 g36) 0 2 l.length)) := (hf1.z 36 rfl).trans (va_up_self _ _ _)
  refine hz_aloadn (pc := 37) 0 (hz_dec kX3_sealOf 23 rfl) rfl ?_
  refine hz_get (pc := 38) (hz_dec kX3_sealOf 24 rfl) fo_X3_36 hj1 (by omega) (by omega) rfl ?_
  refine hz_get (pc := 41) (hz_dec kX3_sealOf 25 rfl) fo_X3_77 hk1.1 (by omega) (by omega) rfl ?_
  refine hz_iconst (pc := 44) (v := nI 0) (hz_dec kX3_sealOf 26 rfl) (by decide) ?_
  refine hz_iald (pc := 45) (j := 0) (hz_dec kX3_sealOf 27 rfl) hv1 (by omega) (by omega) rfl (by omega) (by omega) ?_
  exact hz_iret (pc := 46) (hz_dec kX3_sealOf 28 rfl) rfl ⟨by rw [hvc1 0 (by decide)]; rfl, rfl, hF2, hJ.fs (fun q q1 q2 q3 => hF2.at2 (by omega)) hk1 hs1 h361⟩
/-- a block with its root put -/
def rpS (l : by_L) : by_L := cutL (fun j => if 32 ≤ j ∧ j < 64 then lf (rtS l) (j - 32) else lf l j) 0 l.length
theorem rpS_len (l : by_L) : (rpS l).length = l.length := cutL_len _ _ _
set_option maxHeartbeats 4000000 in
set_option maxRecDepth 100000 in
theorem c_putRoot {κ : hz_C} {z : Nat} {M : hz_M} (hJ : juS M z) {b n : Nat} {f : Nat → Int32} {l : by_L} (hB : M b = .inl (1, n, .inl f)) (hb8 : 39 ≤ b) (hbz : b < z) (hn : n < 2 ^ 24) (hA : isA f 0 l) (hln : l.length ≤ n) : hz_Mt κ xX3_putRoot 4 0 0 [.ref 25, .ref b, .int (nI l.length)] z M (fun r z2 M2 => some (.int (if bkN l = 0 then -1 else if rtS l = subL l 32 32 then nI 0 else nI 1)) = r ∧ z = z2 ∧ frS [(9, 20), (34, 36), (38, 39), (b, b + 1)] M M2 ∧ juS M2 z ∧ ∃ g : Nat → Int32, M2 b = .inl (1, n, .inl g) ∧ isA g 0 (if bkN l = 0 then l else rpS l) ∧ (¬ bkN l = 0 → ∃ fi : Nat → Int64, M2 38 = .inl (2, 8, .inr (.inl fi)) ∧ ∀ j, j < bkN l → fi j = idS (bkT l j))) := by
  refine hz_ent (lo := [(0, .ref 25), (1, .ref b), (2, .int (nI (l.length)))]) (by decide) (Nat.le_of_ble_eq_true rfl) rfl ?_
  obtain ⟨⟨bf, fe, hj⟩, ⟨s0, h34⟩, ⟨r0, h35⟩, ⟨g36, h36⟩, ⟨h0, h37⟩, ⟨i0, h38⟩, ⟨cs0, hc⟩, hk, hs, hw⟩ := id hJ
  obtain ⟨-, -, hz63⟩ := id hk
  refine hz_aloadn (pc := 0) 1 (hz_dec kX3_putRoot 0 rfl) rfl ?_
  refine hz_iloadn (pc := 1) 2 (hz_dec kX3_putRoot 1 rfl) rfl ?_
  refine hz_aloadn (pc := 2) 0 (hz_dec kX3_putRoot 2 rfl) rfl ?_
  refine hz_get (pc := 3) (hz_dec kX3_putRoot 3 rfl) fo_X3_18 hj (by omega) (by omega) rfl ?_
  refine hz_callS (pc := 6) (As := [.ref b, .int (nI (l.length)), .ref 34]) (st := []) (hz_dec kX3_putRoot 4 rfl) co_X3_90 sc_X0_blockStarts (c_bks hB (by omega) hbz (by omega) h34 (by decide) (by omega) hln) rfl (by decide) ⟨Nat.le_refl _, Nat.le_refl _⟩ (Nat.le_of_ble_eq_true rfl) rfl (fun r9 z9 M9 hp9 => ?_)
  obtain ⟨rfl, rfl, s1, hs1, rfl⟩ := hp9
  have hst : ∀ j, bk_st f l.length j = bkS l j := fun j => (bk_st_c (fun i hi => by have q := hA i hi; rw [Nat.zero_add] at q; exact q) j).1
  have hbn0 : bk_n f l.length = bkN l := bk_n_c (fun i hi => by have q := hA i hi; rw [Nat.zero_add] at q; exact q)
  refine hz_eqi (pc := 9) (show _ = nI (bkN l) by rw [hbn0]) ?_
  have hN8 : bkN l ≤ 8 := by by_cases c : bkN l = 0; exact (by omega); exact (blW.f c).2.2.2.2.1
  have hfr1 : frS [(9, 20), (34, 36), (38, 39), (b, b + 1)] M (va_up M 34 (.inl (0, 9, .inl s1))) := frS.up (by simp only [outS, and_true]; omega)
  have eq1 : ∀ q, ¬ q = 34 → (va_up M 34 (.inl (0, 9, .inl s1))) q = M q := fun q hq => va_up_ne _ _ hq
  have hj1 : juO (va_up M 34 (.inl (0, 9, .inl s1))) bf fe := (eq1 _ (by decide)).trans hj
  have h341 : (va_up M 34 (.inl (0, 9, .inl s1))) 34 = .inl (0, 9, .inl s1) := va_up_self _ _ _
  have h351 := (eq1 35 (by decide)).trans h35
  have h361 := (eq1 36 (by decide)).trans h36
  have h371 := (eq1 37 (by decide)).trans h37
  have h381 := (eq1 38 (by decide)).trans h38
  have hB1 := (eq1 b (by omega)).trans hB
  have hc1 : coR (va_up M 34 (.inl (0, 9, .inl s1))) 26 cs0 := hc.fr (fun q q1 q2 => eq1 q (by omega))
  have hk1 : ck_k (va_up M 34 (.inl (0, 9, .inl s1))) z := hk.up (by decide)
  have hs1k : ck_s (va_up M 34 (.inl (0, 9, .inl s1))) := hs.up (by decide)
  have hw1 : ck_w (va_up M 34 (.inl (0, 9, .inl s1))) := hw.fs (fun q q1 q2 => eq1 q (by omega))
  refine hz_istoren (pc := 9) (i := 3) (lo2 := [(3, .int (nI (bkN l))), (0, .ref 25), (1, .ref b), (2, .int (nI (l.length)))]) (hz_dec kX3_putRoot 5 rfl) rfl (by decide) rfl ?_
  refine hz_iloadn (pc := 10) 0 (hz_dec kX3_putRoot 6 rfl) rfl ?_
  refine hz_z_ne (pc := 11) (tgt := 16) (hz_dec kX3_putRoot 7 rfl) (by decide) (by omega) (fun h1 => ?_) (fun h1 => ?_)
  · skip
    have hW : blW l := by unfold blW; omega
    obtain ⟨hbf1, hbf2, hbf3, hbf4, hbf5, hbf6, hbf7⟩ := hW.f
    have hln9 := hW.len
    have hsS : ∀ j, j ≤ bkN l → s1 j = nI (bkS l j) := fun j hj => by rw [hs1 (by rw [hbn0]; omega) j (by rw [hbn0]; exact hj), hst]
    refine hz_aloadn (pc := 16) 1 (hz_dec kX3_putRoot 10 rfl) rfl ?_
    refine hz_aloadn (pc := 17) 2 (hz_dec kX3_putRoot 11 rfl) rfl ?_
    refine hz_iloadn (pc := 18) 0 (hz_dec kX3_putRoot 12 rfl) rfl ?_
    refine hz_callV (pc := 19) (a := 25) (As := [.ref b, .int (nI (bkN l))]) (st := []) (hz_dec kX3_putRoot 13 rfl) co_X3_104 im_X3_makeRoot se_X3_makeRoot rfl hj1 (by omega) (by omega) (c_mkRoot (T := fun q => bkT l q) hj1 hz63 hB1 hb8 hbz hn h341 (by omega) hsS (fun j hj => by have tj := hW.t hj; have tA := hW.A hA hj; rw [Nat.zero_add] at tA; exact ⟨tA, tj.1, by omega⟩) (by omega) hk1 hs1k h351 h381) rfl (by decide) ⟨Nat.le_refl _, Nat.le_refl _⟩ (Nat.le_of_ble_eq_true rfl) rfl (fun r9 z9 M3 hp9 => ?_)
    obtain ⟨rfl, rfl, hf3, hk3, hs3, ⟨fi, h383, hfi⟩, fr3, h353, hrt⟩ := hp9
    have hfr3 : frS [(9, 20), (34, 36), (38, 39), (b, b + 1)] M M3 := hfr1.tr (hf3.mono (fun q hq => by simp only [outS, and_true] at hq ⊢; omega))
    have hj3 := (hf3.at3 (q := 25) (by omega)).trans hj1
    have h343 := (hf3.at3 (q := 34) (by omega)).trans h341
    have h363 := (hf3.at3 (q := 36) (by omega)).trans h361
    have h373 := (hf3.at3 (q := 37) (by omega)).trans h371
    have hB3 := (hf3.at3 (q := b) (by omega)).trans hB1
    have hc3 : coR M3 26 cs0 := hc1.fr (fun q q1 q2 => hf3.at3 (by omega))
    have hw3 : ck_w M3 := hw1.fs (fun q q1 q2 => hf3.at3 (by omega))
    refine hz_aloadn (pc := 22) 1 (hz_dec kX3_putRoot 14 rfl) rfl ?_
    refine hz_get (pc := 23) (hz_dec kX3_putRoot 15 rfl) fo_X3_22 hj3 (by omega) (by omega) rfl ?_
    refine hz_iconst (pc := 26) (v := nI 0) (hz_dec kX3_putRoot 16 rfl) (by decide) ?_
    refine hz_aloadn (pc := 27) 2 (hz_dec kX3_putRoot 17 rfl) rfl ?_
    refine hz_bipush (pc := 28) (v := nI 32) (hz_dec kX3_putRoot 18 rfl) (by decide) ?_
    refine hz_bipush (pc := 30) (v := nI 32) (hz_dec kX3_putRoot 19 rfl) (by decide) ?_
    have hrl : (rtS l).length = 32 := rtS_len hW
    refine hz_xS (pc := 32) (As := [.ref 35, .int (nI 0), .ref b, .int (nI 32), .int (nI 32)]) (st := []) (hz_dec kX3_putRoot 20 rfl) co_X3_107 sc_X0_same (c_same h353 (by decide) (by omega) (by decide) hB3 (by omega) hbz (by omega) (by omega) (by omega)) rfl (by decide) ⟨Nat.le_refl _, Nat.le_refl _⟩ (Nat.le_of_ble_eq_true rfl) rfl ?_
    refine hz_eqi (pc := 35) (show _ = hz_b (smS (rtS l) (subL l 32 32)) by rw [smB_sm, smS_of hrt (isA_sub (i := 32) hA (by omega)) hrl (subL_len _ _ _)]; rfl) ?_
    refine hz_istore (pc := 35) (i := 4) (lo2 := [(4, .int (hz_b (smS (rtS l) (subL l 32 32)))), (3, .int (nI (bkN l))), (0, .ref 25), (1, .ref b), (2, .int (nI (l.length)))]) (hz_dec kX3_putRoot 21 rfl) (by decide) rfl ?_
    refine hz_aloadn (pc := 37) 2 (hz_dec kX3_putRoot 22 rfl) rfl ?_
    refine hz_get (pc := 38) (hz_dec kX3_putRoot 23 rfl) fo_X3_22 hj3 (by omega) (by omega) rfl ?_
    refine hz_iconst (pc := 41) (v := nI 0) (hz_dec kX3_putRoot 24 rfl) (by decide) ?_
    refine hz_aloadn (pc := 42) 3 (hz_dec kX3_putRoot 25 rfl) rfl ?_
    refine hz_bipush (pc := 43) (v := nI 32) (hz_dec kX3_putRoot 26 rfl) (by decide) ?_
    refine hz_bipush (pc := 45) (v := nI 32) (hz_dec kX3_putRoot 27 rfl) (by decide) ?_
    refine hz_xS (pc := 47) (As := [.ref 35, .int (nI 0), .ref b, .int (nI 32), .int (nI 32)]) (st := []) (hz_dec kX3_putRoot 28 rfl) co_X3_245 sc_X0_copy (c_copy h353 (by decide) (by omega) (by decide) hB3 (by omega) hbz (by omega) (by omega) (by omega)) rfl (by decide) ⟨Nat.le_refl _, Nat.le_refl _⟩ (Nat.le_of_ble_eq_true rfl) rfl ?_
    refine hz_iload (pc := 50) 0 (hz_dec kX3_putRoot 29 rfl) rfl ?_
    have hfr4 : frS [(9, 20), (34, 36), (38, 39), (b, b + 1)] M (va_up M3 b (.inl (1, n, .inl (va_cpy fr3 f 0 32 32)))) := hfr3.upr (by simp only [outS, and_true]; omega)
    have eq4 : ∀ q, ¬ q = b → (va_up M3 b (.inl (1, n, .inl (va_cpy fr3 f 0 32 32)))) q = M3 q := fun q hq => va_up_ne _ _ hq
    have hAn : isA (va_cpy fr3 f 0 32 32) 0 (if bkN l = 0 then l else rpS l) := by
      rw [if_neg (by omega)]
      intro j hj
      rw [rpS_len] at hj
      unfold rpS
      rw [lf_cutL hj, Nat.zero_add]
      unfold va_cpy
      by_cases c : 32 ≤ j ∧ j < 64
      · rw [if_pos c, if_pos (by omega)]; have q := hrt (j - 32) (by rw [show (rtF 8 (fun q => hhS (bkT l q)) (bkN l)).length = 32 from hrl]; omega); exact q
      · rw [if_neg c, if_neg (by omega)]; have q := hA j hj; rw [Nat.zero_add] at q; exact q
    have hJ4 : juS (va_up M3 b (.inl (1, n, .inl (va_cpy fr3 f 0 32 32)))) z := ⟨⟨_, _, (eq4 25 (by omega)).trans hj3⟩, ⟨_, (eq4 34 (by omega)).trans h343⟩, ⟨_, (eq4 35 (by omega)).trans h353⟩, ⟨_, (eq4 36 (by omega)).trans h363⟩, ⟨_, (eq4 37 (by omega)).trans h373⟩, ⟨_, (eq4 38 (by omega)).trans h383⟩, ⟨_, hc3.fr (fun q q1 q2 => eq4 q (by omega))⟩, hk3.up (by omega), hs3.up (by omega), hw3.fs (fun q q1 q2 => eq4 q (by omega))⟩
    refine hz_if_eq (pc := 52) (tgt := 59) (hz_dec kX3_putRoot 30 rfl) (by decide) (fun h4 => ?_) (fun h4 => ?_)
    · skip
      refine hz_iconst (pc := 59) (v := nI 1) (hz_dec kX3_putRoot 33 rfl) (by decide) ?_
      exact hz_iret (pc := 60) (hz_dec kX3_putRoot 34 rfl) rfl ⟨by rw [if_neg (by omega), if_neg (show ¬ rtS l = subL l 32 32 from of_decide_eq_false (hz_b0 h4))], rfl, hfr4, hJ4, _, va_up_self _ _ _, hAn, fun _ => ⟨_, (eq4 38 (by omega)).trans h383, hfi⟩⟩
    · skip
      refine hz_iconst (pc := 55) (v := nI 0) (hz_dec kX3_putRoot 31 rfl) (by decide) ?_
      refine hz_goto (pc := 56) (tgt := 60) (hz_dec kX3_putRoot 32 rfl) (by decide) ?_
      exact hz_iret (pc := 60) (hz_dec kX3_putRoot 34 rfl) rfl ⟨by rw [if_neg (by omega), if_pos (show rtS l = subL l 32 32 from of_decide_eq_true (hz_b1 h4))], rfl, hfr4, hJ4, _, va_up_self _ _ _, hAn, fun _ => ⟨_, (eq4 38 (by omega)).trans h383, hfi⟩⟩
  · skip
    refine hz_iconst (pc := 14) (v := (-1)) (hz_dec kX3_putRoot 8 rfl) (by decide) ?_
    exact hz_iret (pc := 15) (hz_dec kX3_putRoot 9 rfl) rfl ⟨by rw [if_pos h1], rfl, hfr1, ⟨⟨_, _, hj1⟩, ⟨_, h341⟩, ⟨_, h351⟩, ⟨_, h361⟩, ⟨_, h371⟩, ⟨_, h381⟩, ⟨_, hc1⟩, hk1, hs1k, hw1⟩, f, hB1, by rw [if_pos h1]; exact hA, fun q => absurd h1 q⟩
