/-! Judge.ofBlock -/
theorem rtF_len : ∀ m g n, 1 ≤ n → (∀ i, i < n → (g i).length = 32) → (rtF m g n).length = 32 := by
  intro m
  induction m with
  | zero => intro g n hn hg; exact hg 0 (by omega)
  | succ m ih =>
    intro g n hn hg
    simp only [rtF]
    split
    · exact hg 0 (by omega)
    · exact ih _ _ (by omega) (lvl_len hg)
theorem rtS_len {l : by_L} (h : blW l) : (rtS l).length = 32 := by
  obtain ⟨-, -, -, f4, -⟩ := h.f
  exact rtF_len _ _ _ f4 (fun i _ => dgS_len _)
theorem jTs_lt (l : by_L) (h : Nat) : ∀ m j cs al, (jTs l h m j cs al).1 < 100 := by
  intro m
  induction m with
  | zero => intro j cs al; exact (by decide : 0 < 100)
  | succ m ih =>
    intro j cs al
    simp only [jTs]
    split
    · split
      · exact (by decide : 13 < 100)
      · exact ih _ _ _
    · exact jSp_lt _ _ _
theorem jPa_lt (l : by_L) (h : Nat) (cs : List co_C) : jPa l h cs < 100 := by
  unfold jPa
  split
  · split
    · exact (by decide : 14 < 100)
    · split
      · exact (by decide : 13 < 100)
      · exact (by decide : 0 < 100)
  · exact jTs_lt _ _ _ _ _ _
set_option maxHeartbeats 4000000 in
set_option maxRecDepth 100000 in
theorem c_ofBlk {κ : hz_C} {z : Nat} {M : hz_M} {nb nx : Nat} {nu up fu rc rf : Int32} (hN : M nb = ndO nb nu up (nI nx) fu rc rf) (hnb8 : 63 ≤ nb) (hnbz : nb + 34 ≤ z) (hnx : nx < 20000) {bl : List bk_B} {tip : Nat} {en : List en_E} (hT : trR M (nb + 21) bl tip en) (hbx : blX bl) (hcb : ∀ k, k < bl.length → cbX bl en k) (hcl : ∀ k, k < bl.length → (coAt bl en k).length ≤ 360 ∧ coHt (coAt bl en k)) (hJ : juS M z) {b n : Nat} {f : Nat → Int32} {l : by_L} (hB : M b = .inl (1, n, .inl f)) (hb8 : 39 ≤ b) (hbz : b < z) (hbn : b < nb ∨ nb + 34 ≤ b) (hn : n < 2 ^ 24) (hA : isA f 0 l) (hln : l.length ≤ n) {od : Bool} : hz_Mt κ xX3_ofBlock 5 0 0 [.ref 25, .ref nb, .ref b, .int (nI l.length), .int (nI (if od then 1 else 0))] z M (fun r z2 M2 => some (.int (nI (jBk bl en l (nrB nx l.length od)))) = r ∧ z = z2 ∧ frS [(9, 39), (nb + 21 + 12, nb + 21 + 13)] M M2 ∧ trR M2 (nb + 21) bl tip en ∧ juS M2 z ∧ (¬ jBk bl en l (nrB nx l.length od) = 1 → ∃ fh : Nat → Int32, M2 37 = .inl (1, 32, .inl fh) ∧ isA fh 0 (haS l)) ∧ (jBk bl en l (nrB nx l.length od) = 0 → (∃ fe, juO M2 (nI (pvF bl l)) fe) ∧ ∃ fi : Nat → Int64, M2 38 = .inl (2, 8, .inr (.inl fi)) ∧ ∀ j, j < bkN l → fi j = idS (bkT l j))) := by
  refine hz_ent (lo := [(0, .ref 25), (1, .ref nb), (2, .ref b), (3, .int (nI (l.length))), (4, .int (nI ((if od then 1 else 0))))]) (by decide) (Nat.le_of_ble_eq_true rfl) rfl ?_
  obtain ⟨⟨bf, fe, hj⟩, ⟨s0, h34⟩, ⟨r0, h35⟩, ⟨g36, h36⟩, ⟨h0, h37⟩, ⟨i0, h38⟩, ⟨cs0, hc⟩, hk, hs, hw⟩ := id hJ
  obtain ⟨-, -, hz63⟩ := id hk
  have hTL : bl.length ≤ en.length ∧ wfE en ∧ bl.length ≤ 113 := by obtain ⟨-, -, -, -, -, -, -, -, q1, q2, q3, q4, q5, q6⟩ := id hT; exact ⟨q2, q5, q1⟩
  obtain ⟨hlen, hwf, hl113⟩ := hTL
  have hod : (if od then 1 else 0) < 2 := by split <;> omega
  refine hz_aloadn (pc := 0) 1 (hz_dec kX3_ofBlock 0 rfl) rfl ?_
  refine hz_get (pc := 1) (hz_dec kX3_ofBlock 1 rfl) fo_X3_84 hN (by omega) (by omega) rfl ?_
  refine hz_astore (pc := 4) (i := 5) (lo2 := [(5, .ref (nb + 21)), (0, .ref 25), (1, .ref nb), (2, .ref b), (3, .int (nI (l.length))), (4, .int (nI ((if od then 1 else 0))))]) (hz_dec kX3_ofBlock 2 rfl) (by decide) rfl ?_
  refine hz_aloadn (pc := 6) 3 (hz_dec kX3_ofBlock 3 rfl) rfl ?_
  refine hz_iloadn (pc := 7) 4 (hz_dec kX3_ofBlock 4 rfl) rfl ?_
  refine hz_aloadn (pc := 8) 1 (hz_dec kX3_ofBlock 5 rfl) rfl ?_
  refine hz_get (pc := 9) (hz_dec kX3_ofBlock 6 rfl) fo_X3_18 hj (by omega) (by omega) rfl ?_
  refine hz_callS (pc := 12) (As := [.ref b, .int (nI (l.length)), .ref 34]) (st := []) (hz_dec kX3_ofBlock 7 rfl) co_X3_90 sc_X0_blockStarts (c_bks hB (by omega) hbz (by omega) h34 (by decide) (by omega) hln) rfl (by decide) ⟨Nat.le_refl _, Nat.le_refl _⟩ (Nat.le_of_ble_eq_true rfl) rfl (fun r9 z9 M9 hp9 => ?_)
  obtain ⟨rfl, rfl, s1, hs1, rfl⟩ := hp9
  have hst : ∀ j, bk_st f l.length j = bkS l j := fun j => (bk_st_c (fun i hi => by have q := hA i hi; rw [Nat.zero_add] at q; exact q) j).1
  have hbn0 : bk_n f l.length = bkN l := bk_n_c (fun i hi => by have q := hA i hi; rw [Nat.zero_add] at q; exact q)
  refine hz_eqi (pc := 15) (show _ = nI (bkN l) by rw [hbn0]) ?_
  have hN8 : bkN l ≤ 8 := by by_cases c : bkN l = 0; exact (by omega); exact (blW.f c).2.2.2.2.1
  have hfr1 : frS [(9, 39), (nb + 21 + 12, nb + 21 + 13)] M (va_up M 34 (.inl (0, 9, .inl s1))) := frS.up (by simp only [outS, and_true]; omega)
  have eq1 : ∀ q, ¬ q = 34 → (va_up M 34 (.inl (0, 9, .inl s1))) q = M q := fun q hq => va_up_ne _ _ hq
  have hj1 : juO (va_up M 34 (.inl (0, 9, .inl s1))) bf fe := (eq1 _ (by decide)).trans hj
  have h341 : (va_up M 34 (.inl (0, 9, .inl s1))) 34 = .inl (0, 9, .inl s1) := va_up_self _ _ _
  have h351 := (eq1 35 (by decide)).trans h35
  have h361 := (eq1 36 (by decide)).trans h36
  have h371 := (eq1 37 (by decide)).trans h37
  have h381 := (eq1 38 (by decide)).trans h38
  have hN1 := (eq1 nb (by omega)).trans hN
  have hB1 := (eq1 b (by omega)).trans hB
  have hc1 : coR (va_up M 34 (.inl (0, 9, .inl s1))) 26 cs0 := hc.fr (fun q q1 q2 => eq1 q (by omega))
  have hk1 : ck_k (va_up M 34 (.inl (0, 9, .inl s1))) z := hk.up (by decide)
  have hs1k : ck_s (va_up M 34 (.inl (0, 9, .inl s1))) := hs.up (by decide)
  have hw1 : ck_w (va_up M 34 (.inl (0, 9, .inl s1))) := hw.fs (fun q q1 q2 => eq1 q (by omega))
  have hT1 : trR (va_up M 34 (.inl (0, 9, .inl s1))) (nb + 21) bl tip en := hT.fr (fun q q1 q2 => eq1 q (by omega))
  refine hz_istore (pc := 15) (i := 6) (lo2 := [(6, .int (nI (bkN l))), (5, .ref (nb + 21)), (0, .ref 25), (1, .ref nb), (2, .ref b), (3, .int (nI (l.length))), (4, .int (nI ((if od then 1 else 0))))]) (hz_dec kX3_ofBlock 8 rfl) (by decide) rfl ?_
  refine hz_iload (pc := 17) 0 (hz_dec kX3_ofBlock 9 rfl) rfl ?_
  refine hz_z_ne (pc := 19) (tgt := 24) (hz_dec kX3_ofBlock 10 rfl) (by decide) (by omega) (fun h1 => ?_) (fun h1 => ?_)
  · skip
    have hW : blW l := by unfold blW; omega
    obtain ⟨hbf1, hbf2, hbf3, hbf4, hbf5, hbf6, hbf7⟩ := hW.f
    have hln9 := hW.len
    have hsS : ∀ j, j ≤ bkN l → s1 j = nI (bkS l j) := fun j hj => by rw [hs1 (by rw [hbn0]; omega) j (by rw [hbn0]; exact hj), hst]
    refine hz_aloadn (pc := 24) 2 (hz_dec kX3_ofBlock 13 rfl) rfl ?_
    refine hz_aloadn (pc := 25) 4 (hz_dec kX3_ofBlock 14 rfl) rfl ?_
    refine hz_iconst (pc := 26) (v := nI 0) (hz_dec kX3_ofBlock 15 rfl) (by decide) ?_
    refine hz_callV (pc := 27) (a := 25) (As := [.ref b, .int (nI 0)]) (st := []) (hz_dec kX3_ofBlock 16 rfl) co_X3_94 im_X3_works se_X3_works rfl hj1 (by omega) (by omega) (c_works hk1 hs1k hw1 hj1 h371 hB1 hb8 hbz hn (hdS_A hA (by omega)) (hdS_len l) (by omega)) rfl (by decide) ⟨Nat.le_refl _, Nat.le_refl _⟩ (Nat.le_of_ble_eq_true rfl) rfl (fun r9 z9 M2 hp9 => ?_)
    obtain ⟨rfl, rfl, hf2, hk2, hs2, hw2, fh, h372, hAH⟩ := hp9
    have hfr2 : frS [(9, 39), (nb + 21 + 12, nb + 21 + 13)] M M2 := hfr1.tr (hf2.mono (fun q hq => by simp only [outS, and_true] at hq ⊢; omega))
    have hj2 := (hf2.at3 (q := 25) (by omega)).trans hj1
    have h342 := (hf2.at3 (q := 34) (by omega)).trans h341
    have h352 := (hf2.at3 (q := 35) (by omega)).trans h351
    have h362 := (hf2.at3 (q := 36) (by omega)).trans h361
    have h382 := (hf2.at3 (q := 38) (by omega)).trans h381
    have hN2 := (hf2.at3 (q := nb) (by omega)).trans hN1
    have hB2 := (hf2.at3 (q := b) (by omega)).trans hB1
    have hc2 : coR M2 26 cs0 := hc1.fr (fun q q1 q2 => hf2.at3 (by omega))
    have hT2 : trR M2 (nb + 21) bl tip en := hT1.fr (fun q q1 q2 => hf2.at3 (by omega))
    refine hz_istore (pc := 30) (i := 7) (lo2 := [(7, .int (hz_b (wkS (hdS l)))), (6, .int (nI (bkN l))), (5, .ref (nb + 21)), (0, .ref 25), (1, .ref nb), (2, .ref b), (3, .int (nI (l.length))), (4, .int (nI ((if od then 1 else 0))))]) (hz_dec kX3_ofBlock 17 rfl) (by decide) rfl ?_
    refine hz_aload (pc := 32) 2 (hz_dec kX3_ofBlock 18 rfl) rfl ?_
    refine hz_aloadn (pc := 34) 3 (hz_dec kX3_ofBlock 19 rfl) rfl ?_
    refine hz_get (pc := 35) (hz_dec kX3_ofBlock 20 rfl) fo_X3_29 hj2 (by omega) (by omega) rfl ?_
    refine hz_iconst (pc := 38) (v := nI 0) (hz_dec kX3_ofBlock 21 rfl) (by decide) ?_
    refine hz_xV (pc := 39) (a := nb + 21) (As := [.ref 37, .int (nI 0)]) (st := []) (hz_dec kX3_ofBlock 22 rfl) co_X3_98 im_X10_indexOf se_X10_indexOf rfl hT2.1 (by omega) (by omega) (c_trIx hT2 (by omega) (by omega) h372 (by decide) (by omega) (by decide) hAH (dgS_len _) (by omega)) rfl (by decide) ⟨Nat.le_refl _, Nat.le_refl _⟩ (Nat.le_of_ble_eq_true rfl) rfl ?_
    by_cases ck : blF bl (haS l) < bl.length
    · skip
      refine hz_eqi (pc := 42) (show _ = nI (blF bl (haS l)) from if_pos ck) ?_
      refine hz_z_lt (pc := 42) (tgt := 47) (hz_dec kX3_ofBlock 23 rfl) (by decide) (by omega) ?_
      have e9 : jBk bl en l (nrB nx l.length od) = 2 := by unfold jBk; rw [if_neg (show ¬ bkN l = 0 by omega), if_pos ck]
      refine hz_iconst (pc := 45) (v := nI 2) (hz_dec kX3_ofBlock 24 rfl) (by decide) ?_
      exact hz_iret (pc := 46) (hz_dec kX3_ofBlock 25 rfl) rfl ⟨by rw [e9], rfl, hfr2, hT2, ⟨⟨_, _, hj2⟩, ⟨_, h342⟩, ⟨_, h352⟩, ⟨_, h362⟩, ⟨_, h372⟩, ⟨_, h382⟩, ⟨cs0, hc2⟩, hk2, hs2, hw2⟩, by rw [e9]; exact fun _ => ⟨_, h372, hAH⟩, by rw [e9]; exact fun q9 => absurd q9 (by decide)⟩
    · skip
      refine hz_eqi (pc := 42) (show _ = (-1 : Int32) from if_neg ck) ?_
      refine hz_if_lt (pc := 42) (tgt := 47) (hz_dec kX3_ofBlock 23 rfl) (by decide) (fun h2 => ?_) (fun h2 => ?_)
      · skip
        refine hz_iload (pc := 47) 0 (hz_dec kX3_ofBlock 26 rfl) rfl ?_
        refine hz_if_ne (pc := 49) (tgt := 54) (hz_dec kX3_ofBlock 27 rfl) (by decide) (fun h3 => ?_) (fun h3 => ?_)
        · skip
          have hwk : wkS (hdS l) = true := hz_b1 h3
          refine hz_aloadn (pc := 54) 3 (hz_dec kX3_ofBlock 30 rfl) rfl ?_
          refine hz_aloadn (pc := 55) 5 (hz_dec kX3_ofBlock 31 rfl) rfl ?_
          refine hz_iload (pc := 56) 1 (hz_dec kX3_ofBlock 32 rfl) rfl ?_
          refine hz_callV (pc := 58) (a := 25) (As := [.ref b, .int (nI (bkN l))]) (st := []) (hz_dec kX3_ofBlock 33 rfl) co_X3_104 im_X3_makeRoot se_X3_makeRoot rfl hj2 (by omega) (by omega) (c_mkRoot (T := fun q => bkT l q) hj2 hz63 hB2 hb8 hbz hn h342 (by omega) hsS (fun j hj => by have tj := hW.t hj; have tA := hW.A hA hj; rw [Nat.zero_add] at tA; exact ⟨tA, tj.1, by omega⟩) (by omega) hk2 hs2 h352 h382) rfl (by decide) ⟨Nat.le_refl _, Nat.le_refl _⟩ (Nat.le_of_ble_eq_true rfl) rfl (fun r9 z9 M3 hp9 => ?_)
          obtain ⟨rfl, rfl, hf3, hk3, hs3, ⟨fi, h383, hfi⟩, fr3, h353, hrt⟩ := hp9
          have hfr3 : frS [(9, 39), (nb + 21 + 12, nb + 21 + 13)] M M3 := hfr2.tr (hf3.mono (fun q hq => by simp only [outS, and_true] at hq ⊢; omega))
          have hj3 := (hf3.at3 (q := 25) (by omega)).trans hj2
          have h343 := (hf3.at3 (q := 34) (by omega)).trans h342
          have h363 := (hf3.at3 (q := 36) (by omega)).trans h362
          have h373 := (hf3.at3 (q := 37) (by omega)).trans h372
          have hN3 := (hf3.at3 (q := nb) (by omega)).trans hN2
          have hB3 := (hf3.at3 (q := b) (by omega)).trans hB2
          have hc3 : coR M3 26 cs0 := hc2.fr (fun q q1 q2 => hf3.at3 (by omega))
          have hT3 : trR M3 (nb + 21) bl tip en := hT2.fr (fun q q1 q2 => hf3.at3 (by omega))
          have hw3 : ck_w M3 := hw2.fs (fun q q1 q2 => hf3.at3 (by omega))
          refine hz_aloadn (pc := 61) 3 (hz_dec kX3_ofBlock 34 rfl) rfl ?_
          refine hz_get (pc := 62) (hz_dec kX3_ofBlock 35 rfl) fo_X3_22 hj3 (by omega) (by omega) rfl ?_
          refine hz_iconst (pc := 65) (v := nI 0) (hz_dec kX3_ofBlock 36 rfl) (by decide) ?_
          refine hz_aloadn (pc := 66) 5 (hz_dec kX3_ofBlock 37 rfl) rfl ?_
          refine hz_bipush (pc := 67) (v := nI 32) (hz_dec kX3_ofBlock 38 rfl) (by decide) ?_
          refine hz_bipush (pc := 69) (v := nI 32) (hz_dec kX3_ofBlock 39 rfl) (by decide) ?_
          have hrl : (rtS l).length = 32 := rtS_len hW
          refine hz_xS (pc := 71) (As := [.ref 35, .int (nI 0), .ref b, .int (nI 32), .int (nI 32)]) (st := []) (hz_dec kX3_ofBlock 40 rfl) co_X3_107 sc_X0_same (c_same h353 (by decide) (by omega) (by decide) hB3 (by omega) hbz (by omega) (by omega) (by omega)) rfl (by decide) ⟨Nat.le_refl _, Nat.le_refl _⟩ (Nat.le_of_ble_eq_true rfl) rfl ?_
          refine hz_eqi (pc := 74) (show _ = hz_b (smS (rtS l) (subL l 32 32)) by rw [smB_sm, smS_of hrt (isA_sub (i := 32) hA (by omega)) hrl (subL_len _ _ _)]; rfl) ?_
          refine hz_if_ne (pc := 74) (tgt := 79) (hz_dec kX3_ofBlock 41 rfl) (by decide) (fun h4 => ?_) (fun h4 => ?_)
          · skip
            have hro : rtS l = subL l 32 32 := of_decide_eq_true (hz_b1 h4)
            refine hz_iconst (pc := 79) (v := nI 0) (hz_dec kX3_ofBlock 44 rfl) (by decide) ?_
            refine hz_istore (pc := 80) (i := 8) (lo2 := [(8, .int (nI 0)), (7, .int (hz_b (wkS (hdS l)))), (6, .int (nI (bkN l))), (5, .ref (nb + 21)), (0, .ref 25), (1, .ref nb), (2, .ref b), (3, .int (nI (l.length))), (4, .int (nI ((if od then 1 else 0))))]) (hz_dec kX3_ofBlock 45 rfl) (by decide) rfl ?_
            refine hz_pick (pc := 82) [0, 4, 5, 6, 7, 8, 3, 2, 1] rfl ?_
            refine hz_pick (pc := 82) [0, 1, 2, 3, 4, 5, 6, 7] rfl ?_
            refine c_ofb_r hz63 hB3 hb8 hbz hn hA hln hW hj3 h343 hsS (fun hrw => ?_) (fun hrw => ?_) (bkN l) 0 rfl (by omega) (fun i hi => absurd hi (by omega))
            · have e9 : jBk bl en l (nrB nx l.length od) = 5 := by unfold jBk; rw [if_neg (show ¬ bkN l = 0 by omega), if_neg ck, if_neg (show ¬ wkS (hdS l) = false by rw [hwk]; decide), if_neg (show ¬ ¬ rtS l = subL l 32 32 from fun q => q hro), if_pos hrw]
              exact ⟨by rw [e9], rfl, hfr3, hT3, ⟨⟨_, _, hj3⟩, ⟨_, h343⟩, ⟨_, h353⟩, ⟨_, h363⟩, ⟨_, h373⟩, ⟨_, h383⟩, ⟨_, hc3⟩, hk3, hs3, hw3⟩, by rw [e9]; exact fun _ => ⟨_, h373, hAH⟩, by rw [e9]; exact fun q9 => absurd q9 (by decide)⟩
            · skip
              refine hz_aloadn (pc := 129) 0 (hz_dec kX3_ofBlock 69 rfl) rfl ?_
              refine hz_aload (pc := 130) 5 (hz_dec kX3_ofBlock 70 rfl) rfl ?_
              refine hz_aloadn (pc := 132) 2 (hz_dec kX3_ofBlock 71 rfl) rfl ?_
              refine hz_iconst (pc := 133) (v := nI 0) (hz_dec kX3_ofBlock 72 rfl) (by decide) ?_
              refine hz_xV (pc := 134) (a := nb + 21) (As := [.ref b, .int (nI 0)]) (st := [.ref 25]) (hz_dec kX3_ofBlock 73 rfl) co_X3_98 im_X10_indexOf se_X10_indexOf rfl hT3.1 (by omega) (by omega) (c_trIx hT3 (by omega) (by omega) hB3 (by omega) hbz (by omega) (isA_sub (i := 0) (n := 32) hA (by omega)) (subL_len _ _ _) (by omega)) rfl (by decide) ⟨Nat.le_refl _, Nat.le_refl _⟩ (Nat.le_of_ble_eq_true rfl) rfl ?_
              by_cases cp : pvF bl l < bl.length
              · skip
                refine hz_eqi (pc := 137) (show _ = nI (pvF bl l) from if_pos cp) ?_
                refine hz_puti (pc := 137) (hz_dec kX3_ofBlock 74 rfl) fo_X3_114 ft_X3_9 hj3 (by omega) (by omega) (Nat.le_of_ble_eq_true rfl) ?_
                refine hz_mem (pc := 140) (M2 := (va_up M3 25 (.inr (3, [.ref 9, .ref 13, .ref 20, .ref 26, .ref 34, .ref 35, .ref 36, .ref 37, .ref 38, .int (nI (pvF bl l)), .long fe])))) rfl ?_
                refine hz_aloadn (pc := 140) 0 (hz_dec kX3_ofBlock 75 rfl) rfl ?_
                refine hz_get (pc := 141) (hz_dec kX3_ofBlock 76 rfl) fo_X3_114 (va_up_self _ _ _) (by omega) (by omega) rfl ?_
                have hfr4 : frS [(9, 39), (nb + 21 + 12, nb + 21 + 13)] M (va_up M3 25 (.inr (3, [.ref 9, .ref 13, .ref 20, .ref 26, .ref 34, .ref 35, .ref 36, .ref 37, .ref 38, .int (nI (pvF bl l)), .long fe]))) := hfr3.upr (by simp only [outS, and_true]; omega)
                have eq4 : ∀ q, ¬ q = 25 → (va_up M3 25 (.inr (3, [.ref 9, .ref 13, .ref 20, .ref 26, .ref 34, .ref 35, .ref 36, .ref 37, .ref 38, .int (nI (pvF bl l)), .long fe]))) q = M3 q := fun q hq => va_up_ne _ _ hq
                have hj4 := va_up_self M3 25 (.inr (3, [.ref 9, .ref 13, .ref 20, .ref 26, .ref 34, .ref 35, .ref 36, .ref 37, .ref 38, .int (nI (pvF bl l)), .long fe]))
                have h344 := (eq4 34 (by decide)).trans h343
                have h354 := (eq4 35 (by decide)).trans h353
                have h364 := (eq4 36 (by decide)).trans h363
                have h374 := (eq4 37 (by decide)).trans h373
                have h384 := (eq4 38 (by decide)).trans h383
                have hN4 := (eq4 nb (by omega)).trans hN3
                have hB4 := (eq4 b (by omega)).trans hB3
                have hc4 : coR (va_up M3 25 (.inr (3, [.ref 9, .ref 13, .ref 20, .ref 26, .ref 34, .ref 35, .ref 36, .ref 37, .ref 38, .int (nI (pvF bl l)), .long fe]))) 26 cs0 := hc3.fr (fun q q1 q2 => eq4 q (by omega))
                have hk4 : ck_k (va_up M3 25 (.inr (3, [.ref 9, .ref 13, .ref 20, .ref 26, .ref 34, .ref 35, .ref 36, .ref 37, .ref 38, .int (nI (pvF bl l)), .long fe]))) z := hk3.up (by decide)
                have hs4 : ck_s (va_up M3 25 (.inr (3, [.ref 9, .ref 13, .ref 20, .ref 26, .ref 34, .ref 35, .ref 36, .ref 37, .ref 38, .int (nI (pvF bl l)), .long fe]))) := hs3.up (by decide)
                have hw4 : ck_w (va_up M3 25 (.inr (3, [.ref 9, .ref 13, .ref 20, .ref 26, .ref 34, .ref 35, .ref 36, .ref 37, .ref 38, .int (nI (pvF bl l)), .long fe]))) := hw3.fs (fun q q1 q2 => eq4 q (by omega))
                have hT4 : trR (va_up M3 25 (.inr (3, [.ref 9, .ref 13, .ref 20, .ref 26, .ref 34, .ref 35, .ref 36, .ref 37, .ref 38, .int (nI (pvF bl l)), .long fe]))) (nb + 21) bl tip en := hT3.fr (fun q q1 q2 => eq4 q (by omega))
                refine hz_z_ge (pc := 144) (tgt := 150) (hz_dec kX3_ofBlock 77 rfl) (by decide) (by omega) ?_
                refine hz_aloadn (pc := 150) 2 (hz_dec kX3_ofBlock 80 rfl) rfl ?_
                refine hz_bipush (pc := 151) (v := nI 68) (hz_dec kX3_ofBlock 81 rfl) (by decide) ?_
                refine hz_iconst (pc := 153) (v := nI 4) (hz_dec kX3_ofBlock 82 rfl) (by decide) ?_
                refine hz_xS (pc := 154) (As := [.ref b, .int (nI 68), .int (nI 4)]) (st := []) (hz_dec kX3_ofBlock 83 rfl) co_X3_61 sc_X0_number (c_number hB4 (by omega) hbz (by omega) (by omega)) rfl (by decide) ⟨Nat.le_refl _, Nat.le_refl _⟩ (Nat.le_of_ble_eq_true rfl) rfl ?_
                refine hz_l2i (pc := 157) (hz_dec kX3_ofBlock 84 rfl) ?_
                refine hz_eqi (pc := 158) (show _ = bn_int (lf l) 68 by rw [bn_int_l]; have q := int_of hA (i := 68) (by omega); rw [Nat.zero_add] at q; exact q) ?_
                refine hz_aload (pc := 158) 5 (hz_dec kX3_ofBlock 85 rfl) rfl ?_
                refine hz_aloadn (pc := 160) 0 (hz_dec kX3_ofBlock 86 rfl) rfl ?_
                refine hz_get (pc := 161) (hz_dec kX3_ofBlock 87 rfl) fo_X3_114 hj4 (by omega) (by omega) rfl ?_
                refine hz_callV (pc := 164) (a := nb + 21) (As := [.int (nI (pvF bl l))]) (st := [.int (bn_int (lf l) 68)]) (hz_dec kX3_ofBlock 88 rfl) co_X3_118 im_X10_dueBits se_X10_dueBits rfl hT4.1 (by omega) (by omega) (c_due hT4 (by omega) (by omega) hw4 (by omega)) rfl (by decide) ⟨Nat.le_refl _, Nat.le_refl _⟩ (Nat.le_of_ble_eq_true rfl) rfl (fun r9 z9 M5 hp9 => ?_)
                obtain ⟨rfl, rfl, hf5, hw5⟩ := hp9
                have hfr5 : frS [(9, 39), (nb + 21 + 12, nb + 21 + 13)] M M5 := hfr4.tr (hf5.mono (fun q hq => by simp only [outS, and_true] at hq ⊢; omega))
                have hj5 := (hf5.at1 (q := 25) (by omega)).trans hj4
                have h345 := (hf5.at1 (q := 34) (by omega)).trans h344
                have h355 := (hf5.at1 (q := 35) (by omega)).trans h354
                have h365 := (hf5.at1 (q := 36) (by omega)).trans h364
                have h375 := (hf5.at1 (q := 37) (by omega)).trans h374
                have h385 := (hf5.at1 (q := 38) (by omega)).trans h384
                have hN5 := (hf5.at1 (q := nb) (by omega)).trans hN4
                have hB5 := (hf5.at1 (q := b) (by omega)).trans hB4
                have hc5 : coR M5 26 cs0 := hc4.fr (fun q q1 q2 => hf5.at1 (by omega))
                have hT5 : trR M5 (nb + 21) bl tip en := hT4.fr (fun q q1 q2 => hf5.at1 (by omega))
                have hk5 : ck_k M5 z := hk4.fs (hf5.at1 (by omega)) (hf5.at1 (by omega))
                have hs5 : ck_s M5 := hs4.fs (fun q q1 q2 => hf5.at1 (by omega))
                refine hz_icmp_eq (pc := 167) (tgt := 173) (hz_dec kX3_ofBlock 89 rfl) (by decide) (fun h6 => ?_) (fun h6 => ?_)
                · skip
                  refine hz_aloadn (pc := 173) 2 (hz_dec kX3_ofBlock 92 rfl) rfl ?_
                  refine hz_bipush (pc := 174) (v := nI 64) (hz_dec kX3_ofBlock 93 rfl) (by decide) ?_
                  refine hz_iconst (pc := 176) (v := nI 4) (hz_dec kX3_ofBlock 94 rfl) (by decide) ?_
                  refine hz_xS (pc := 177) (As := [.ref b, .int (nI 64), .int (nI 4)]) (st := []) (hz_dec kX3_ofBlock 95 rfl) co_X3_61 sc_X0_number (c_number hB5 (by omega) hbz (by omega) (by omega)) rfl (by decide) ⟨Nat.le_refl _, Nat.le_refl _⟩ (Nat.le_of_ble_eq_true rfl) rfl ?_
                  refine hz_l2i (pc := 180) (hz_dec kX3_ofBlock 96 rfl) ?_
                  refine hz_eqi (pc := 181) (show _ = bn_int (lf l) 64 by rw [bn_int_l]; have q := int_of hA (i := 64) (by omega); rw [Nat.zero_add] at q; exact q) ?_
                  refine hz_aload (pc := 181) 5 (hz_dec kX3_ofBlock 97 rfl) rfl ?_
                  refine hz_aloadn (pc := 183) 0 (hz_dec kX3_ofBlock 98 rfl) rfl ?_
                  refine hz_get (pc := 184) (hz_dec kX3_ofBlock 99 rfl) fo_X3_114 hj5 (by omega) (by omega) rfl ?_
                  refine hz_callV (pc := 187) (a := nb + 21) (As := [.int (nI (pvF bl l))]) (st := [.int (bn_int (lf l) 64)]) (hz_dec kX3_ofBlock 100 rfl) co_X3_122 im_X10_middleTime se_X10_middleTime rfl hT5.1 (by omega) (by omega) (c_mid hT5 (by omega) (by omega) (by omega)) rfl (by decide) ⟨Nat.le_refl _, Nat.le_refl _⟩ (Nat.le_of_ble_eq_true rfl) rfl (fun r9 z9 M9 hp9 => ?_)
                  obtain ⟨rfl, rfl, fm6, rfl⟩ := hp9
                  have hfr6 : frS [(9, 39), (nb + 21 + 12, nb + 21 + 13)] M (va_up M5 (nb + 21 + 12) (.inl (0, 11, .inl (fm6)))) := hfr5.upr (by simp only [outS, and_true]; omega)
                  have eq6 : ∀ q, ¬ q = nb + 21 + 12 → (va_up M5 (nb + 21 + 12) (.inl (0, 11, .inl (fm6)))) q = M5 q := fun q hq => va_up_ne _ _ hq
                  have hj6 := (eq6 25 (by omega)).trans hj5
                  have h346 := (eq6 34 (by omega)).trans h345
                  have h356 := (eq6 35 (by omega)).trans h355
                  have h366 := (eq6 36 (by omega)).trans h365
                  have h376 := (eq6 37 (by omega)).trans h375
                  have h386 := (eq6 38 (by omega)).trans h385
                  have hN6 := (eq6 nb (by omega)).trans hN5
                  have hB6 := (eq6 b (by omega)).trans hB5
                  have hc6 : coR (va_up M5 (nb + 21 + 12) (.inl (0, 11, .inl (fm6)))) 26 cs0 := hc5.fr (fun q q1 q2 => eq6 q (by omega))
                  have hk6 : ck_k (va_up M5 (nb + 21 + 12) (.inl (0, 11, .inl (fm6)))) z := hk5.up (by omega)
                  have hs6 : ck_s (va_up M5 (nb + 21 + 12) (.inl (0, 11, .inl (fm6)))) := hs5.up (by omega)
                  have hw6 : ck_w (va_up M5 (nb + 21 + 12) (.inl (0, 11, .inl (fm6)))) := hw5.fs (fun q q1 q2 => eq6 q (by omega))
                  have hT6 : trR (va_up M5 (nb + 21 + 12) (.inl (0, 11, .inl (fm6)))) (nb + 21) bl tip en := hT5.fm (fun q q1 q2 => eq6 q (by omega)) ⟨fm6, va_up_self _ _ _⟩
                  refine hz_icmp_gt (pc := 190) (tgt := 196) (hz_dec kX3_ofBlock 101 rfl) (by decide) (fun h7 => ?_) (fun h7 => ?_)
                  · skip
                    have hTX := hT6
                    obtain ⟨-, -, -, ⟨fb, fht, ftm, fbi, hfb, hfht, hftm, hfbi, hEX⟩, -⟩ := id hT6
                    have hpe := hwf.ht (k := pvF bl l) (by omega)
                    have t0 := hW.t (j := 0) (by omega)
                    have t0l := txW_len t0.2.1
                    have t01 : bkS l 1 = bkS l 0 + (bkT l 0).length := t0.1
                    have t04 : bkS l 1 ≤ l.length := t0.2.2.2.1
                    refine hz_aload (pc := 196) 5 (hz_dec kX3_ofBlock 104 rfl) rfl ?_
                    refine hz_get (pc := 198) (hz_dec kX3_ofBlock 105 rfl) fo_X3_125 hT6.1 (by omega) (by omega) rfl ?_
                    refine hz_aloadn (pc := 201) 0 (hz_dec kX3_ofBlock 106 rfl) rfl ?_
                    refine hz_get (pc := 202) (hz_dec kX3_ofBlock 107 rfl) fo_X3_114 hj6 (by omega) (by omega) rfl ?_
                    refine hz_iald (pc := 205) (j := pvF bl l) (hz_dec kX3_ofBlock 108 rfl) hfht (by omega) (by omega) rfl (by omega) (by decide) ?_
                    refine hz_eqi (pc := 206) (hEX (pvF bl l) (by omega)).2.1 ?_
                    refine hz_iconst (pc := 206) (v := nI 1) (hz_dec kX3_ofBlock 109 rfl) (by decide) ?_
                    refine hz_addN (pc := 207) (hz_dec kX3_ofBlock 110 rfl) ?_
                    refine hz_istore (pc := 208) (i := 8) (lo2 := [(8, .int (nI ((eH en (pvF bl l)) + 1))), (0, .ref 25), (1, .ref nb), (2, .ref b), (3, .int (nI (l.length))), (4, .int (nI ((if od then 1 else 0)))), (5, .ref (nb + 21)), (6, .int (nI (bkN l)))]) (hz_dec kX3_ofBlock 111 rfl) (by decide) rfl ?_
                    refine hz_aloadn (pc := 210) 3 (hz_dec kX3_ofBlock 112 rfl) rfl ?_
                    refine hz_aloadn (pc := 211) 1 (hz_dec kX3_ofBlock 113 rfl) rfl ?_
                    refine hz_get (pc := 212) (hz_dec kX3_ofBlock 114 rfl) fo_X3_18 hj6 (by omega) (by omega) rfl ?_
                    refine hz_iconst (pc := 215) (v := nI 0) (hz_dec kX3_ofBlock 115 rfl) (by decide) ?_
                    refine hz_iald (pc := 216) (j := 0) (hz_dec kX3_ofBlock 116 rfl) h346 (by omega) (by omega) rfl (by omega) (by omega) ?_
                    refine hz_eqi (pc := 217) (hsS (0) (by omega)) ?_
                    refine hz_iconst (pc := 217) (v := nI 2) (hz_dec kX3_ofBlock 117 rfl) (by decide) ?_
                    refine hz_addN (pc := 218) (hz_dec kX3_ofBlock 118 rfl) ?_
                    refine hz_iconst (pc := 219) (v := nI 4) (hz_dec kX3_ofBlock 119 rfl) (by decide) ?_
                    refine hz_xS (pc := 220) (As := [.ref b, .int (nI ((bkS l (0)) + 2)), .int (nI 4)]) (st := []) (hz_dec kX3_ofBlock 120 rfl) co_X3_61 sc_X0_number (c_number hB6 (by omega) hbz (by omega) (by omega)) rfl (by decide) ⟨Nat.le_refl _, Nat.le_refl _⟩ (Nat.le_of_ble_eq_true rfl) rfl ?_
                    refine hz_l2i (pc := 223) (hz_dec kX3_ofBlock 121 rfl) ?_
                    refine hz_eqi (pc := 224) (show _ = bn_int (lf l) (bkS l 0 + 2) by rw [bn_int_l]; have q := int_of hA (i := bkS l 0 + 2) (by omega); rw [Nat.zero_add] at q; exact q) ?_
                    refine hz_iload (pc := 224) 0 (hz_dec kX3_ofBlock 122 rfl) rfl ?_
                    refine hz_icmp_eq (pc := 226) (tgt := 232) (hz_dec kX3_ofBlock 123 rfl) (by decide) (fun h10 => ?_) (fun h10 => ?_)
                    · skip
                      refine hz_aloadn (pc := 232) 1 (hz_dec kX3_ofBlock 126 rfl) rfl ?_
                      refine hz_get (pc := 233) (hz_dec kX3_ofBlock 127 rfl) fo_X3_12 hj6 (by omega) (by omega) rfl ?_
                      refine hz_aload (pc := 236) 6 (hz_dec kX3_ofBlock 128 rfl) rfl ?_
                      refine hz_aloadn (pc := 238) 1 (hz_dec kX3_ofBlock 129 rfl) rfl ?_
                      refine hz_get (pc := 239) (hz_dec kX3_ofBlock 130 rfl) fo_X3_114 hj6 (by omega) (by omega) rfl ?_
                      obtain ⟨hcl1, hcl2⟩ := hcl (pvF bl l) cp
                      refine hz_callV (pc := 242) (a := 26) (As := [.ref (nb + 21), .int (nI (pvF bl l))]) (st := []) (hz_dec kX3_ofBlock 131 rfl) co_X3_128 im_X1_replay se_X1_replay rfl hc6.1 (by omega) (by omega) (c_rep hT6 (by omega) (by omega) hc6 (by omega) (by omega) (by omega) cp hbx (hcb (pvF bl l) cp)) rfl (by decide) ⟨Nat.le_refl _, Nat.le_refl _⟩ (Nat.le_of_ble_eq_true rfl) rfl (fun r9 z9 M7 hp9 => ?_)
                      obtain ⟨rfl, rfl, hf7, hc7⟩ := hp9
                      have hfr7 : frS [(9, 39), (nb + 21 + 12, nb + 21 + 13)] M M7 := hfr6.tr (hf7.mono (fun q hq => by simp only [outS, and_true] at hq ⊢; omega))
                      have hj7 := (hf7.at1 (q := 25) (by omega)).trans hj6
                      have h347 := (hf7.at1 (q := 34) (by omega)).trans h346
                      have h357 := (hf7.at1 (q := 35) (by omega)).trans h356
                      have h367 := (hf7.at1 (q := 36) (by omega)).trans h366
                      have h377 := (hf7.at1 (q := 37) (by omega)).trans h376
                      have h387 := (hf7.at1 (q := 38) (by omega)).trans h386
                      have hN7 := (hf7.at1 (q := nb) (by omega)).trans hN6
                      have hB7 := (hf7.at1 (q := b) (by omega)).trans hB6
                      have hk7 : ck_k M7 z := hk6.fs (hf7.at1 (by omega)) (hf7.at1 (by omega))
                      have hs7 : ck_s M7 := hs6.fs (fun q q1 q2 => hf7.at1 (by omega))
                      have hw7 : ck_w M7 := hw6.fs (fun q q1 q2 => hf7.at1 (by omega))
                      have hT7 : trR M7 (nb + 21) bl tip en := hT6.fr (fun q q1 q2 => hf7.at1 (by omega))
                      refine hz_aloadn (pc := 245) 1 (hz_dec kX3_ofBlock 132 rfl) rfl ?_
                      refine hz_aloadn (pc := 246) 3 (hz_dec kX3_ofBlock 133 rfl) rfl ?_
                      refine hz_iload (pc := 247) 7 (hz_dec kX3_ofBlock 134 rfl) rfl ?_
                      refine hz_iload (pc := 249) 0 (hz_dec kX3_ofBlock 135 rfl) rfl ?_
                      refine hz_callV (pc := 251) (a := 25) (As := [.ref b, .int (nI (bkN l)), .int (nI ((eH en (pvF bl l)) + 1))]) (st := []) (hz_dec kX3_ofBlock 136 rfl) co_X3_132 im_X3_ofTransactions se_X3_ofTransactions rfl hj7 (by omega) (by omega) (c_oTs hz63 hB7 hb8 hbz hn hA hln hW h347 hsS h387 hfi (h_ := eH en (pvF bl l) + 1) (by omega) hk7 hs7 hj7 hc7 hcl2 hcl1) rfl (by decide) ⟨Nat.le_refl _, Nat.le_refl _⟩ (Nat.le_of_ble_eq_true rfl) rfl (fun r9 z9 M8 hp9 => ?_)
                      obtain ⟨rfl, rfl, hf8, hk8, hs8, ⟨fe8, hj8⟩, cs8, hc8⟩ := hp9
                      have hfr8 : frS [(9, 39), (nb + 21 + 12, nb + 21 + 13)] M M8 := hfr7.tr (hf8.mono (fun q hq => by simp only [outS, and_true] at hq ⊢; omega))
                      have h348 := (hf8.at2 (q := 34) (by omega)).trans h347
                      have h358 := (hf8.at2 (q := 35) (by omega)).trans h357
                      have h368 := (hf8.at2 (q := 36) (by omega)).trans h367
                      have h378 := (hf8.at2 (q := 37) (by omega)).trans h377
                      have h388 := (hf8.at2 (q := 38) (by omega)).trans h387
                      have hN8 := (hf8.at2 (q := nb) (by omega)).trans hN7
                      have hB8 := (hf8.at2 (q := b) (by omega)).trans hB7
                      have hw8 : ck_w M8 := hw7.fs (fun q q1 q2 => hf8.at2 (by omega))
                      have hT8 : trR M8 (nb + 21) bl tip en := hT7.fr (fun q q1 q2 => hf8.at2 (by omega))
                      have hv9 : jPa l (eH en (pvF bl l) + 1) (coAt bl en (pvF bl l)) < 100 := jPa_lt _ _ _
                      refine hz_istore (pc := 254) (i := 9) (lo2 := [(9, .int (nI (jPa l (eH en (pvF bl l) + 1) (coAt bl en (pvF bl l))))), (8, .int (nI ((eH en (pvF bl l)) + 1))), (0, .ref 25), (1, .ref nb), (2, .ref b), (3, .int (nI (l.length))), (4, .int (nI ((if od then 1 else 0)))), (5, .ref (nb + 21)), (6, .int (nI (bkN l)))]) (hz_dec kX3_ofBlock 137 rfl) (by decide) rfl ?_
                      refine hz_iload (pc := 256) 0 (hz_dec kX3_ofBlock 138 rfl) rfl ?_
                      refine hz_z_ne (pc := 258) (tgt := 279) (hz_dec kX3_ofBlock 139 rfl) (by decide) (by omega) (fun h11 => ?_) (fun h11 => ?_)
                      · skip
                        have e9 : jBk bl en l (nrB nx l.length od) = jPa l (eH en (pvF bl l) + 1) (coAt bl en (pvF bl l)) := by unfold jBk; rw [if_neg (show ¬ bkN l = 0 by omega), if_neg ck, if_neg (show ¬ wkS (hdS l) = false by rw [hwk]; decide), if_neg (show ¬ ¬ rtS l = subL l 32 32 from fun q => q hro), if_neg (show ¬ rwS l = false by rw [hrw]; decide), if_neg (show ¬ ¬ pvF bl l < bl.length from fun q => q cp), if_neg (show ¬ ¬ bn_int (lf l) 68 = dueE en (pvF bl l) from fun q => q h6), if_neg (show ¬ bn_int (lf l) 64 ≤ midE en (pvF bl l) from Int32.not_le.mpr h7), if_neg (show ¬ ¬ bn_int (lf l) (bkS l 0 + 2) = nI (eH en (pvF bl l) + 1) from fun q => q h10), if_neg (show ¬ (jPa l (eH en (pvF bl l) + 1) (coAt bl en (pvF bl l)) = 0 ∧ nrB nx l.length od = true) from fun q => by omega)]
                        refine hz_iload (pc := 279) 0 (hz_dec kX3_ofBlock 148 rfl) rfl ?_
                        exact hz_iret (pc := 281) (hz_dec kX3_ofBlock 149 rfl) rfl ⟨by rw [e9], rfl, hfr8, hT8, ⟨⟨_, _, hj8⟩, ⟨_, h348⟩, ⟨_, h358⟩, ⟨_, h368⟩, ⟨_, h378⟩, ⟨_, h388⟩, ⟨_, hc8⟩, hk8, hs8, hw8⟩, fun _ => ⟨_, h378, hAH⟩, fun _ => ⟨⟨_, hj8⟩, _, h388, hfi⟩⟩
                      · skip
                        refine hz_iload (pc := 261) 6 (hz_dec kX3_ofBlock 140 rfl) rfl ?_
                        refine hz_z_eq (pc := 263) (tgt := 279) (hz_dec kX3_ofBlock 141 rfl) (by decide) (by omega) (fun h12 => ?_) (fun h12 => ?_)
                        · skip
                          have e9 : jBk bl en l (nrB nx l.length od) = jPa l (eH en (pvF bl l) + 1) (coAt bl en (pvF bl l)) := by unfold jBk; rw [if_neg (show ¬ bkN l = 0 by omega), if_neg ck, if_neg (show ¬ wkS (hdS l) = false by rw [hwk]; decide), if_neg (show ¬ ¬ rtS l = subL l 32 32 from fun q => q hro), if_neg (show ¬ rwS l = false by rw [hrw]; decide), if_neg (show ¬ ¬ pvF bl l < bl.length from fun q => q cp), if_neg (show ¬ ¬ bn_int (lf l) 68 = dueE en (pvF bl l) from fun q => q h6), if_neg (show ¬ bn_int (lf l) 64 ≤ midE en (pvF bl l) from Int32.not_le.mpr h7), if_neg (show ¬ ¬ bn_int (lf l) (bkS l 0 + 2) = nI (eH en (pvF bl l) + 1) from fun q => q h10), if_neg (show ¬ (jPa l (eH en (pvF bl l) + 1) (coAt bl en (pvF bl l)) = 0 ∧ nrB nx l.length od = true) from fun q => by have r := q.2; unfold nrB at r; cases od; cases r; exact absurd h12 (by decide))]
                          refine hz_iload (pc := 279) 0 (hz_dec kX3_ofBlock 148 rfl) rfl ?_
                          exact hz_iret (pc := 281) (hz_dec kX3_ofBlock 149 rfl) rfl ⟨by rw [e9], rfl, hfr8, hT8, ⟨⟨_, _, hj8⟩, ⟨_, h348⟩, ⟨_, h358⟩, ⟨_, h368⟩, ⟨_, h378⟩, ⟨_, h388⟩, ⟨_, hc8⟩, hk8, hs8, hw8⟩, fun _ => ⟨_, h378, hAH⟩, fun _ => ⟨⟨_, hj8⟩, _, h388, hfi⟩⟩
                        · skip
                          have hod1 : od = true := by cases od; exact absurd h12 (by decide); rfl
                          refine hz_aloadn (pc := 266) 3 (hz_dec kX3_ofBlock 142 rfl) rfl ?_
                          refine hz_iloadn (pc := 267) 5 (hz_dec kX3_ofBlock 143 rfl) rfl ?_
                          refine hz_xV (pc := 268) (a := nb) (As := [.int (nI (l.length))]) (st := []) (hz_dec kX3_ofBlock 144 rfl) co_X3_136 im_X6_hasRoomFor se_X6_hasRoomFor rfl hN8 (by omega) (by omega) (c_room hN8 (by omega) (by omega) (by omega) (by omega)) rfl (by decide) ⟨Nat.le_refl _, Nat.le_refl _⟩ (Nat.le_of_ble_eq_true rfl) rfl ?_
                          refine hz_if_ne (pc := 271) (tgt := 279) (hz_dec kX3_ofBlock 145 rfl) (by decide) (fun h13 => ?_) (fun h13 => ?_)
                          · skip
                            have e9 : jBk bl en l (nrB nx l.length od) = jPa l (eH en (pvF bl l) + 1) (coAt bl en (pvF bl l)) := by unfold jBk; rw [if_neg (show ¬ bkN l = 0 by omega), if_neg ck, if_neg (show ¬ wkS (hdS l) = false by rw [hwk]; decide), if_neg (show ¬ ¬ rtS l = subL l 32 32 from fun q => q hro), if_neg (show ¬ rwS l = false by rw [hrw]; decide), if_neg (show ¬ ¬ pvF bl l < bl.length from fun q => q cp), if_neg (show ¬ ¬ bn_int (lf l) 68 = dueE en (pvF bl l) from fun q => q h6), if_neg (show ¬ bn_int (lf l) 64 ≤ midE en (pvF bl l) from Int32.not_le.mpr h7), if_neg (show ¬ ¬ bn_int (lf l) (bkS l 0 + 2) = nI (eH en (pvF bl l) + 1) from fun q => q h10), if_neg (show ¬ (jPa l (eH en (pvF bl l) + 1) (coAt bl en (pvF bl l)) = 0 ∧ nrB nx l.length od = true) from fun q => by have r := q.2; unfold nrB at r; rw [hod1, Bool.true_and] at r; have r1 := of_decide_eq_true r; have r2 := of_decide_eq_true (hz_b1 h13); omega)]
                            refine hz_iload (pc := 279) 0 (hz_dec kX3_ofBlock 148 rfl) rfl ?_
                            exact hz_iret (pc := 281) (hz_dec kX3_ofBlock 149 rfl) rfl ⟨by rw [e9], rfl, hfr8, hT8, ⟨⟨_, _, hj8⟩, ⟨_, h348⟩, ⟨_, h358⟩, ⟨_, h368⟩, ⟨_, h378⟩, ⟨_, h388⟩, ⟨_, hc8⟩, hk8, hs8, hw8⟩, fun _ => ⟨_, h378, hAH⟩, fun _ => ⟨⟨_, hj8⟩, _, h388, hfi⟩⟩
                          · skip
                            have e9 : jBk bl en l (nrB nx l.length od) = 15 := by unfold jBk; rw [if_neg (show ¬ bkN l = 0 by omega), if_neg ck, if_neg (show ¬ wkS (hdS l) = false by rw [hwk]; decide), if_neg (show ¬ ¬ rtS l = subL l 32 32 from fun q => q hro), if_neg (show ¬ rwS l = false by rw [hrw]; decide), if_neg (show ¬ ¬ pvF bl l < bl.length from fun q => q cp), if_neg (show ¬ ¬ bn_int (lf l) 68 = dueE en (pvF bl l) from fun q => q h6), if_neg (show ¬ bn_int (lf l) 64 ≤ midE en (pvF bl l) from Int32.not_le.mpr h7), if_neg (show ¬ ¬ bn_int (lf l) (bkS l 0 + 2) = nI (eH en (pvF bl l) + 1) from fun q => q h10), if_pos (show jPa l (eH en (pvF bl l) + 1) (coAt bl en (pvF bl l)) = 0 ∧ nrB nx l.length od = true from ⟨by omega, by unfold nrB; rw [hod1, Bool.true_and]; have r2 := of_decide_eq_false (hz_b0 h13); exact decide_eq_true (by omega)⟩)]
                            refine hz_bipush (pc := 274) (v := nI 15) (hz_dec kX3_ofBlock 146 rfl) (by decide) ?_
                            refine hz_goto (pc := 276) (tgt := 281) (hz_dec kX3_ofBlock 147 rfl) (by decide) ?_
                            exact hz_iret (pc := 281) (hz_dec kX3_ofBlock 149 rfl) rfl ⟨by rw [e9], rfl, hfr8, hT8, ⟨⟨_, _, hj8⟩, ⟨_, h348⟩, ⟨_, h358⟩, ⟨_, h368⟩, ⟨_, h378⟩, ⟨_, h388⟩, ⟨_, hc8⟩, hk8, hs8, hw8⟩, fun _ => ⟨_, h378, hAH⟩, fun _ => ⟨⟨_, hj8⟩, _, h388, hfi⟩⟩
                    · skip
                      have e9 : jBk bl en l (nrB nx l.length od) = 9 := by unfold jBk; rw [if_neg (show ¬ bkN l = 0 by omega), if_neg ck, if_neg (show ¬ wkS (hdS l) = false by rw [hwk]; decide), if_neg (show ¬ ¬ rtS l = subL l 32 32 from fun q => q hro), if_neg (show ¬ rwS l = false by rw [hrw]; decide), if_neg (show ¬ ¬ pvF bl l < bl.length from fun q => q cp), if_neg (show ¬ ¬ bn_int (lf l) 68 = dueE en (pvF bl l) from fun q => q h6), if_neg (show ¬ bn_int (lf l) 64 ≤ midE en (pvF bl l) from Int32.not_le.mpr h7), if_pos (show ¬ bn_int (lf l) (bkS l 0 + 2) = nI (eH en (pvF bl l) + 1) from h10)]
                      refine hz_bipush (pc := 229) (v := nI 9) (hz_dec kX3_ofBlock 124 rfl) (by decide) ?_
                      exact hz_iret (pc := 231) (hz_dec kX3_ofBlock 125 rfl) rfl ⟨by rw [e9], rfl, hfr6, hT6, ⟨⟨_, _, hj6⟩, ⟨_, h346⟩, ⟨_, h356⟩, ⟨_, h366⟩, ⟨_, h376⟩, ⟨_, h386⟩, ⟨cs0, hc6⟩, hk6, hs6, hw6⟩, by rw [e9]; exact fun _ => ⟨_, h376, hAH⟩, by rw [e9]; exact fun q9 => absurd q9 (by decide)⟩
                  · skip
                    have e9 : jBk bl en l (nrB nx l.length od) = 8 := by unfold jBk; rw [if_neg (show ¬ bkN l = 0 by omega), if_neg ck, if_neg (show ¬ wkS (hdS l) = false by rw [hwk]; decide), if_neg (show ¬ ¬ rtS l = subL l 32 32 from fun q => q hro), if_neg (show ¬ rwS l = false by rw [hrw]; decide), if_neg (show ¬ ¬ pvF bl l < bl.length from fun q => q cp), if_neg (show ¬ ¬ bn_int (lf l) 68 = dueE en (pvF bl l) from fun q => q h6), if_pos (show bn_int (lf l) 64 ≤ midE en (pvF bl l) from Int32.not_lt.mp h7)]
                    refine hz_bipush (pc := 193) (v := nI 8) (hz_dec kX3_ofBlock 102 rfl) (by decide) ?_
                    exact hz_iret (pc := 195) (hz_dec kX3_ofBlock 103 rfl) rfl ⟨by rw [e9], rfl, hfr6, hT6, ⟨⟨_, _, hj6⟩, ⟨_, h346⟩, ⟨_, h356⟩, ⟨_, h366⟩, ⟨_, h376⟩, ⟨_, h386⟩, ⟨cs0, hc6⟩, hk6, hs6, hw6⟩, by rw [e9]; exact fun _ => ⟨_, h376, hAH⟩, by rw [e9]; exact fun q9 => absurd q9 (by decide)⟩
                · skip
                  have e9 : jBk bl en l (nrB nx l.length od) = 7 := by unfold jBk; rw [if_neg (show ¬ bkN l = 0 by omega), if_neg ck, if_neg (show ¬ wkS (hdS l) = false by rw [hwk]; decide), if_neg (show ¬ ¬ rtS l = subL l 32 32 from fun q => q hro), if_neg (show ¬ rwS l = false by rw [hrw]; decide), if_neg (show ¬ ¬ pvF bl l < bl.length from fun q => q cp), if_pos (show ¬ bn_int (lf l) 68 = dueE en (pvF bl l) from h6)]
                  refine hz_bipush (pc := 170) (v := nI 7) (hz_dec kX3_ofBlock 90 rfl) (by decide) ?_
                  exact hz_iret (pc := 172) (hz_dec kX3_ofBlock 91 rfl) rfl ⟨by rw [e9], rfl, hfr5, hT5, ⟨⟨_, _, hj5⟩, ⟨_, h345⟩, ⟨_, h355⟩, ⟨_, h365⟩, ⟨_, h375⟩, ⟨_, h385⟩, ⟨cs0, hc5⟩, hk5, hs5, hw5⟩, by rw [e9]; exact fun _ => ⟨_, h375, hAH⟩, by rw [e9]; exact fun q9 => absurd q9 (by decide)⟩
              · skip
                refine hz_eqi (pc := 137) (show _ = (-1 : Int32) from if_neg cp) ?_
                refine hz_puti (pc := 137) (hz_dec kX3_ofBlock 74 rfl) fo_X3_114 ft_X3_9 hj3 (by omega) (by omega) (Nat.le_of_ble_eq_true rfl) ?_
                refine hz_mem (pc := 140) (M2 := (va_up M3 25 (.inr (3, [.ref 9, .ref 13, .ref 20, .ref 26, .ref 34, .ref 35, .ref 36, .ref 37, .ref 38, .int (-1), .long fe])))) rfl ?_
                refine hz_aloadn (pc := 140) 0 (hz_dec kX3_ofBlock 75 rfl) rfl ?_
                refine hz_get (pc := 141) (hz_dec kX3_ofBlock 76 rfl) fo_X3_114 (va_up_self _ _ _) (by omega) (by omega) rfl ?_
                have hfr4 : frS [(9, 39), (nb + 21 + 12, nb + 21 + 13)] M (va_up M3 25 (.inr (3, [.ref 9, .ref 13, .ref 20, .ref 26, .ref 34, .ref 35, .ref 36, .ref 37, .ref 38, .int (-1), .long fe]))) := hfr3.upr (by simp only [outS, and_true]; omega)
                have eq4 : ∀ q, ¬ q = 25 → (va_up M3 25 (.inr (3, [.ref 9, .ref 13, .ref 20, .ref 26, .ref 34, .ref 35, .ref 36, .ref 37, .ref 38, .int (-1), .long fe]))) q = M3 q := fun q hq => va_up_ne _ _ hq
                have hj4 := va_up_self M3 25 (.inr (3, [.ref 9, .ref 13, .ref 20, .ref 26, .ref 34, .ref 35, .ref 36, .ref 37, .ref 38, .int (-1), .long fe]))
                have h344 := (eq4 34 (by decide)).trans h343
                have h354 := (eq4 35 (by decide)).trans h353
                have h364 := (eq4 36 (by decide)).trans h363
                have h374 := (eq4 37 (by decide)).trans h373
                have h384 := (eq4 38 (by decide)).trans h383
                have hN4 := (eq4 nb (by omega)).trans hN3
                have hB4 := (eq4 b (by omega)).trans hB3
                have hc4 : coR (va_up M3 25 (.inr (3, [.ref 9, .ref 13, .ref 20, .ref 26, .ref 34, .ref 35, .ref 36, .ref 37, .ref 38, .int (-1), .long fe]))) 26 cs0 := hc3.fr (fun q q1 q2 => eq4 q (by omega))
                have hk4 : ck_k (va_up M3 25 (.inr (3, [.ref 9, .ref 13, .ref 20, .ref 26, .ref 34, .ref 35, .ref 36, .ref 37, .ref 38, .int (-1), .long fe]))) z := hk3.up (by decide)
                have hs4 : ck_s (va_up M3 25 (.inr (3, [.ref 9, .ref 13, .ref 20, .ref 26, .ref 34, .ref 35, .ref 36, .ref 37, .ref 38, .int (-1), .long fe]))) := hs3.up (by decide)
                have hw4 : ck_w (va_up M3 25 (.inr (3, [.ref 9, .ref 13, .ref 20, .ref 26, .ref 34, .ref 35, .ref 36, .ref 37, .ref 38, .int (-1), .long fe]))) := hw3.fs (fun q q1 q2 => eq4 q (by omega))
                have hT4 : trR (va_up M3 25 (.inr (3, [.ref 9, .ref 13, .ref 20, .ref 26, .ref 34, .ref 35, .ref 36, .ref 37, .ref 38, .int (-1), .long fe]))) (nb + 21) bl tip en := hT3.fr (fun q q1 q2 => eq4 q (by omega))
                refine hz_if_ge (pc := 144) (tgt := 150) (hz_dec kX3_ofBlock 77 rfl) (by decide) (fun h5 => ?_) (fun h5 => ?_)
                · skip
                  exact absurd h5 (by decide)
                · skip
                  have e9 : jBk bl en l (nrB nx l.length od) = 6 := by unfold jBk; rw [if_neg (show ¬ bkN l = 0 by omega), if_neg ck, if_neg (show ¬ wkS (hdS l) = false by rw [hwk]; decide), if_neg (show ¬ ¬ rtS l = subL l 32 32 from fun q => q hro), if_neg (show ¬ rwS l = false by rw [hrw]; decide), if_pos cp]
                  refine hz_bipush (pc := 147) (v := nI 6) (hz_dec kX3_ofBlock 78 rfl) (by decide) ?_
                  exact hz_iret (pc := 149) (hz_dec kX3_ofBlock 79 rfl) rfl ⟨by rw [e9], rfl, hfr4, hT4, ⟨⟨_, _, hj4⟩, ⟨_, h344⟩, ⟨_, h354⟩, ⟨_, h364⟩, ⟨_, h374⟩, ⟨_, h384⟩, ⟨cs0, hc4⟩, hk4, hs4, hw4⟩, by rw [e9]; exact fun _ => ⟨_, h374, hAH⟩, by rw [e9]; exact fun q9 => absurd q9 (by decide)⟩
          · skip
            have e9 : jBk bl en l (nrB nx l.length od) = 4 := by unfold jBk; rw [if_neg (show ¬ bkN l = 0 by omega), if_neg ck, if_neg (show ¬ wkS (hdS l) = false by rw [hwk]; decide), if_pos (show ¬ rtS l = subL l 32 32 from of_decide_eq_false (hz_b0 h4))]
            refine hz_iconst (pc := 77) (v := nI 4) (hz_dec kX3_ofBlock 42 rfl) (by decide) ?_
            exact hz_iret (pc := 78) (hz_dec kX3_ofBlock 43 rfl) rfl ⟨by rw [e9], rfl, hfr3, hT3, ⟨⟨_, _, hj3⟩, ⟨_, h343⟩, ⟨_, h353⟩, ⟨_, h363⟩, ⟨_, h373⟩, ⟨_, h383⟩, ⟨cs0, hc3⟩, hk3, hs3, hw3⟩, by rw [e9]; exact fun _ => ⟨_, h373, hAH⟩, by rw [e9]; exact fun q9 => absurd q9 (by decide)⟩
        · skip
          have e9 : jBk bl en l (nrB nx l.length od) = 3 := by unfold jBk; rw [if_neg (show ¬ bkN l = 0 by omega), if_neg ck, if_pos (hz_b0 h3)]
          refine hz_iconst (pc := 52) (v := nI 3) (hz_dec kX3_ofBlock 28 rfl) (by decide) ?_
          exact hz_iret (pc := 53) (hz_dec kX3_ofBlock 29 rfl) rfl ⟨by rw [e9], rfl, hfr2, hT2, ⟨⟨_, _, hj2⟩, ⟨_, h342⟩, ⟨_, h352⟩, ⟨_, h362⟩, ⟨_, h372⟩, ⟨_, h382⟩, ⟨cs0, hc2⟩, hk2, hs2, hw2⟩, by rw [e9]; exact fun _ => ⟨_, h372, hAH⟩, by rw [e9]; exact fun q9 => absurd q9 (by decide)⟩
      · skip
        exact absurd (by decide) h2
  · skip
    have hs1 := hs1k
    have e9 : jBk bl en l (nrB nx l.length od) = 1 := by unfold jBk; rw [if_pos h1]
    refine hz_iconst (pc := 22) (v := nI 1) (hz_dec kX3_ofBlock 11 rfl) (by decide) ?_
    exact hz_iret (pc := 23) (hz_dec kX3_ofBlock 12 rfl) rfl ⟨by rw [e9], rfl, hfr1, hT1, ⟨⟨_, _, hj1⟩, ⟨_, h341⟩, ⟨_, h351⟩, ⟨_, h361⟩, ⟨_, h371⟩, ⟨_, h381⟩, ⟨cs0, hc1⟩, hk1, hs1, hw1⟩, by rw [e9]; exact fun q9 => absurd rfl q9, by rw [e9]; exact fun q9 => absurd q9 (by decide)⟩
