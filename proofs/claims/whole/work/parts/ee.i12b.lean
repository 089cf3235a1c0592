/-! the reference's constructor: the rest -/
theorem x12I.z {B : Nat} {iv : Nat → Int32} {M0 M : hz_M} (h : x12I B 87 iv M0 M) {o : Nat} (h1 : 1 ≤ o) (h2 : o ≤ 87) : fA M B o = (fun _ => 0) ∧ fL M B o = (fun _ => 0) := by
  unfold fA fL
  rw [h.2.1 o h1 h2]
  unfold zC
  by_cases c : (zT.getD o (0, 0)).1 = 2
  · rw [if_pos c]; exact ⟨rfl, rfl⟩
  · rw [if_neg c]; exact ⟨rfl, rfl⟩
theorem x12I.i {B : Nat} {iv : Nat → Int32} {M0 M : hz_M} (h : x12I B 87 iv M0 M) {k : Nat} (hk : k < 106) (h0 : md_off k = 0) (h59 : ¬ k = 59) : fdB M B k = some (.int (iv k)) := by
  obtain ⟨⟨fs, h1, h2, h3, h4⟩, -, -⟩ := h
  exact (fdB_of h1 k).trans (h4 k hk h0 h59)
theorem x12I.O {B : Nat} {iv : Nat → Int32} {M0 M : hz_M} (h : x12I B 87 iv M0 M) : md_O M B := by
  obtain ⟨⟨fs, h1, h2, h3, h4⟩, -, -⟩ := h
  exact ⟨fs, h1, h2, fun k hk hn => h3 k hk hn ((show ∀ k, k < 106 → md_off k ≤ 87 by decide) k hk)⟩
theorem x12I.E {B : Nat} {iv : Nat → Int32} {M0 M : hz_M} (h : x12I B 87 iv M0 M) : mdE M B := by
  refine ⟨fun p hp => ?_, fun p hp => ?_⟩
  · obtain ⟨a1, a2, a3, a4⟩ := (show ∀ p ∈ mdS, 1 ≤ p.1 ∧ p.1 ≤ 87 ∧ zT.getD p.1 (0, 0) = (p.2.1, p.2.2) ∧ ¬ p.2.1 = 2 by decide) p hp
    have e : M (B + p.1) = .inl (p.2.1, p.2.2, .inl (fun _ => 0)) := by
      rw [h.2.1 p.1 a1 a2]
      unfold zC
      rw [a3, if_neg a4]
    rw [fA_of e]
    exact e
  · obtain ⟨a1, a2, a3⟩ := (show ∀ p ∈ mdL, 1 ≤ p.1 ∧ p.1 ≤ 87 ∧ zT.getD p.1 (0, 0) = (2, p.2) by decide) p hp
    have e : M (B + p.1) = .inl (2, p.2, .inr (.inl (fun _ => 0))) := by
      rw [h.2.1 p.1 a1 a2]
      unfold zC
      rw [a3, if_pos rfl]
    rw [fL_of e]
    exact e
theorem x12I.o {B : Nat} {M : hz_M} (h : M B = .inr (12, [.int (nI 0), .int (nI 0), .null, .null, .null, .null, .null, .null, .null, .null, .null, .null, .null, .null, .null, .null, .int (nI 0), .null, .null, .null, .null, .null, .null, .null, .null, .null, .null, .null, .null, .null, .null, .null, .null, .null, .null, .null, .null, .int (nI 0), .null, .int (nI 0), .null, .null, .null, .null, .null, .null, .null, .null, .null, .null, .null, .null, .null, .int (nI 0), .int (nI 0), .int (nI 0), .null, .null, .null, .long 0, .null, .int (nI 0), .null, .null, .null, .null, .null, .null, .null, .null, .null, .null, .null, .null, .null, .null, .null, .null, .null, .null, .null, .null, .null, .null, .null, .null, .int (nI 0), .int (nI 0), .int (nI 0), .int (nI 0), .null, .null, .int (nI 0), .null, .null, .int (nI 0), .int (nI 0), .null, .null, .null, .int (nI 0), .null, .null, .int (nI 0), .null, .null])) : x12I B 0 (fun _ => 0) M M := by
  refine ⟨⟨_, h, rfl, fun k hk hn hle => absurd (Nat.le_zero.mp hle) hn, fun k hk h0 h59 => ?_⟩, fun i h1 h2 => absurd h2 (by omega), fun q _ => rfl⟩
  have hm := (show ∀ k, k < 106 → md_off k = 0 → ¬ k = 59 → k ∈ [0, 1, 16, 37, 39, 53, 54, 55, 61, 86, 87, 88, 89, 92, 95, 96, 100, 103] by decide) k hk h0 h59
  simp only [List.mem_cons, List.not_mem_nil, or_false] at hm
  rcases hm with rfl | rfl | rfl | rfl | rfl | rfl | rfl | rfl | rfl | rfl | rfl | rfl | rfl | rfl | rfl | rfl | rfl | rfl <;> rfl
theorem mV_r (n : Int32) : (n < 1 → mV n = nI 1) ∧ (¬ n < 1 → 6 < n → mV n = nI 6) ∧ (¬ n < 1 → ¬ 6 < n → mV n = n) := by
  refine ⟨fun h => ?_, fun h h2 => ?_, fun h h2 => ?_⟩
  · unfold mV; rw [if_pos h]; rfl
  · unfold mV; rw [if_neg h, if_pos h2]; rfl
  · unfold mV; rw [if_neg h, if_neg h2]
def lpI (z B : Nat) (M1 M : hz_M) (i : Nat) : Prop := mfr B [16, 37, 39] [1, 2, 3, 4, 5, 6, 7, 8, 10, 11, 12, 13, 14, 15, 16, 18, 19, 20, 21, 24, 25, 26, 27, 28, 29, 30, 31, 32, 33, 34, 35, 36] M1 M ∧ md_k B M z ∧ mdE M B ∧ fiM M B fiF ∧ ∀ v, v < i → mnB M B v [fiB fiF] (enB [fiB fiF]) 0 ∧ fA M B 18 v = nI 0 ∧ fA M B 24 (128 * v + 0) = -1 ∧ fA M B 16 v = 1 ∧ fA M B 19 v = -1
/-- a new reference -/
theorem hm_0 {z B nn : Nat} {M0 M1 M : hz_M} (hn1 : 1 ≤ nn) (hn6 : nn ≤ 6) (h1 : x12I B 87 (fun q => if q = 1 then nI nn else (fun q => if q = 103 then (nI 200000) else (fun q => if q = 55 then (-1) else (fun q => if q = 54 then (-1) else (fun _ => 0) q) q) q) q) M0 M1) (h : lpI z B M1 M nn) : hmR M z B (hoZ nn) := by
  obtain ⟨hf, hk, hE, hFi, hN⟩ := h
  have za : ∀ o, 1 ≤ o → o ≤ 87 → [1, 2, 3, 4, 5, 6, 7, 8, 10, 11, 12, 13, 14, 15, 16, 18, 19, 20, 21, 24, 25, 26, 27, 28, 29, 30, 31, 32, 33, 34, 35, 36].elem o = false → fA M B o = fun _ => 0 := fun o a1 a2 a3 => (fA_m hf (by omega) a3).trans (h1.z a1 a2).1
  have zl : ∀ o, 1 ≤ o → o ≤ 87 → [1, 2, 3, 4, 5, 6, 7, 8, 10, 11, 12, 13, 14, 15, 16, 18, 19, 20, 21, 24, 25, 26, 27, 28, 29, 30, 31, 32, 33, 34, 35, 36].elem o = false → fL M B o = fun _ => 0 := fun o a1 a2 a3 => (fL_m hf (by omega) a3).trans (h1.z a1 a2).2
  have fd : ∀ k, k < 106 → md_off k = 0 → ¬ k = 59 → ([16, 37, 39] : List Nat).elem k = false → fdB M B k = some (.int ((fun q => if q = 1 then nI nn else (fun q => if q = 103 then (nI 200000) else (fun q => if q = 55 then (-1) else (fun q => if q = 54 then (-1) else (fun _ => 0) q) q) q) q) k)) := fun k a1 a2 a3 a4 => (hf.2.2 k a4).trans (h1.i a1 a2 a3)
  refine ⟨hk, hE, ⟨by rw [hoZ_l]; exact fd 1 (by decide) rfl (by decide) rfl, fun k _ => ⟨by rw [za 69 (by decide) (by decide) rfl]; rfl, Nat.zero_le 9⟩, ⟨fun k hk9 => absurd hk9 (Nat.not_lt_zero k), fun k hk9 => absurd hk9 (Nat.not_lt_zero k)⟩, Nat.zero_le _, Nat.zero_le _, fd 86 (by decide) rfl (by decide) rfl, fd 87 (by decide) rfl (by decide) rfl, fd 88 (by decide) rfl (by decide) rfl, fd 89 (by decide) rfl (by decide) rfl⟩, fun v hv => ?_, fun j hj => absurd hj (Nat.not_lt_zero j), fd 95 (by decide) rfl (by decide) rfl, ⟨fd 96 (by decide) rfl (by decide) rfl, fd 100 (by decide) rfl (by decide) rfl, Nat.zero_le _, Nat.zero_le _, fun k hk9 => absurd hk9 (Nat.not_lt_zero k), fun k hk9 => absurd hk9 (Nat.not_lt_zero k)⟩, fd 103 (by decide) rfl (by decide) rfl⟩
  rw [hoZ_l] at hv
  rw [hoZ_n hv]
  obtain ⟨b1, b2, b3, b4, b5⟩ := hN v hv
  refine ⟨⟨b4, fun j _ => by rw [za 17 (by decide) (by decide) rfl]; rfl, b2, b5, b1, ⟨by rw [za 58 (by decide) (by decide) rfl]; rfl, fun k hk9 => absurd hk9 (Nat.not_lt_zero k)⟩, ⟨_, _, fd 54 (by decide) rfl (by decide) rfl, fd 55 (by decide) rfl (by decide) rfl, fun c => ?_⟩, fun k hk9 => Or.inl ?_⟩, ⟨by rw [za 67 (by decide) (by decide) rfl]; rfl, fun k hk9 => absurd hk9 (Nat.not_lt_zero k)⟩, by rw [za 22 (by decide) (by decide) rfl]; rfl, by rw [za 23 (by decide) (by decide) rfl]; rfl⟩
  · exfalso
    have q : ∀ v, v < 6 → ¬ (-1 : Int32) = nI v := by decide
    exact q v (by omega) c
  · have e : k = 0 := by have q : k < 1 := hk9; omega
    rw [e]
    exact b3
set_option maxHeartbeats 4000000 in
set_option maxRecDepth 100000 in
theorem c_i12_l {κ : hz_C} {B nn : Nat} {n : Int32} {M0 M1 : hz_M} (hB : 8 ≤ B) (hn1 : 1 ≤ nn) (hn6 : nn ≤ 6) (h1 : x12I B 87 (fun q => if q = 1 then nI nn else (fun q => if q = 103 then (nI 200000) else (fun q => if q = 55 then (-1) else (fun q => if q = 54 then (-1) else (fun _ => 0) q) q) q) q) M0 M1) : ∀ k i M, k = nn - i → i ≤ nn → lpI (B + 88) B M1 M i → hq_W κ xX12_init 8 87 523918 (fun r z2 M2 => none = r ∧ B + 88 = z2 ∧ (∀ q, q < B → M2 q = M0 q) ∧ hmR M2 z2 B (hoZ nn) ∧ fiM M2 B fiF) 87 523918 785 [(2, .int (nI i)), (0, .ref B), (1, .int n)] [] (B + 88) M := by
  intro k
  induction k using Nat.strongRecOn with
  | ind k ih =>
  intro i M hk hi hI
  obtain ⟨hf0, hk0, hE0, hFi, hN⟩ := id hI
  obtain ⟨⟨fs, hO, hF⟩, -, -, h8, hz⟩ := id hk0
  have g1 : fs[1]? = some (.int (nI nn)) := (fdB_of hO 1).symm.trans ((hf0.2.2 1 rfl).trans (h1.i (k := 1) (by decide) rfl (by decide)))
  have hFl : fiF.length = 103 := fiX_len _
  have hFb := fiX_i (lN fiN)
  refine hq_iloadn (pc := 785) 0 (hz_dec kX12_init 378 rfl) rfl ?_
  refine hq_aloadn (pc := 786) 1 (hz_dec kX12_init 379 rfl) rfl ?_
  refine hq_get (pc := 787) (v := .int (nI nn)) (hz_dec kX12_init 380 rfl) fo_X12_289 hO h8 (by omega) g1 ?_
  refine hq_n_ge (pc := 790) (tgt := 818) (hz_dec kX12_init 381 rfl) (by decide) (by omega) (by omega) (fun h1_ => ?_) (fun h1_ => ?_)
  · skip
    have e : i = nn := by omega
    subst e
    exact hq_vret (pc := 818) (hz_dec kX12_init 397 rfl) rfl ⟨rfl, rfl, fun q hq => (hf0.out rfl (Or.inl hq)).trans (h1.2.2 q hq), hm_0 hn1 hn6 h1 hI, hFi⟩
  · skip
    have hlt : i < nn := by omega
    refine hq_aloadn (pc := 793) 1 (hz_dec kX12_init 382 rfl) rfl ?_
    refine hq_get (pc := 794) (v := .ref (B + 19)) (hz_dec kX12_init 383 rfl) fo_X12_68 hO h8 (by omega) (hF.2 21 (by decide) (by decide)) ?_
    refine hq_iloadn (pc := 797) 0 (hz_dec kX12_init 384 rfl) rfl ?_
    refine hq_iconst (pc := 798) (v := (-1)) (hz_dec kX12_init 385 rfl) (by decide) ?_
    refine hq_iast (pc := 799) (j := i) (hz_dec kX12_init 386 rfl) hE0.a19 (by omega) (by omega) rfl (by omega) (by decide) ?_
    refine hq_aloadn (pc := 800) 1 (hz_dec kX12_init 387 rfl) rfl ?_
    refine hq_get (pc := 801) (v := .ref (B + 16)) (hz_dec kX12_init 388 rfl) fo_X12_57 (hz_mne hO (by omega)) h8 (by omega) (hF.2 18 (by decide) (by decide)) ?_
    refine hq_iloadn (pc := 804) 0 (hz_dec kX12_init 389 rfl) rfl ?_
    refine hq_iconst (pc := 805) (v := nI 1) (hz_dec kX12_init 390 rfl) (by decide) ?_
    refine hq_zast (pc := 806) (j := i) (hz_dec kX12_init 391 rfl) (hz_mne hE0.a16 (by omega)) (by omega) (by omega) rfl (by omega) (by decide) (Or.inr rfl) ?_
    refine hq_aloadn (pc := 807) 1 (hz_dec kX12_init 392 rfl) rfl ?_
    refine hq_iloadn (pc := 808) 0 (hz_dec kX12_init 393 rfl) rfl ?_
    have hf2 : mfr B [] [16, 19] M (va_up (va_up M (B + 19) (.inl (0, 6, .inl (upd (fA M B 19) i (((-1))))))) (B + 16) (.inl (3, 6, .inl (upd (fA M B 16) i ((nI (1))))))) := (((mfr.rf (ks := []) (os := [16, 19]) ⟨fs, hO, hF⟩).upA (o := 19) rfl (by decide)).upA (o := 16) rfl (by decide))
    have hE2 : mdE (va_up (va_up M (B + 19) (.inl (0, 6, .inl (upd (fA M B 19) i (((-1))))))) (B + 16) (.inl (3, 6, .inl (upd (fA M B 16) i ((nI (1))))))) B := ((hE0.upA (k := 19) (t := 0) (n := 6) (by decide)).upA (k := 16) (t := 3) (n := 6) (by decide))
    have hk2 : md_k B (va_up (va_up M (B + 19) (.inl (0, 6, .inl (upd (fA M B 19) i (((-1))))))) (B + 16) (.inl (3, 6, .inl (upd (fA M B 16) i ((nI (1))))))) (B + 88) := hk0.mf hf2 rfl rfl
    have e19 : fA (va_up (va_up M (B + 19) (.inl (0, 6, .inl (upd (fA M B 19) i (((-1))))))) (B + 16) (.inl (3, 6, .inl (upd (fA M B 16) i ((nI (1))))))) B 19 = upd (fA M B 19) i (((-1))) := fA_of (hz_mne (va_up_self _ _ _) (by omega))
    have e16 : fA (va_up (va_up M (B + 19) (.inl (0, 6, .inl (upd (fA M B 19) i (((-1))))))) (B + 16) (.inl (3, 6, .inl (upd (fA M B 16) i ((nI (1))))))) B 16 = upd (fA M B 16) i ((nI (1))) := fA_of (va_up_self _ _ _)
    have hFi2 : fiM (va_up (va_up M (B + 19) (.inl (0, 6, .inl (upd (fA M B 19) i (((-1))))))) (B + 16) (.inl (3, 6, .inl (upd (fA M B 16) i ((nI (1))))))) B fiF := ⟨(hf2.2.2 37 rfl).trans hFi.1, by rw [fA_m hf2 (by decide) rfl]; exact hFi.2⟩
    generalize (va_up (va_up M (B + 19) (.inl (0, 6, .inl (upd (fA M B 19) i (((-1))))))) (B + 16) (.inl (3, 6, .inl (upd (fA M B 16) i ((nI (1))))))) = M2 at *
    obtain ⟨⟨fs2, hO2, hF2⟩, -, -, -, -⟩ := id hk2
    refine hq_callV (pc := 809) (a := B) (As := [.int (nI i)]) (st := []) (hz_dec kX12_init 394 rfl) co_X12_298 im_X12_keepFirst se_X12_keepFirst rfl hO2 h8 (by omega) (c_kF hk2 hE2 (v := i) (by omega) (F := fiF) hFi2 (fiX_W _) (by rw [hFl]; decide) (by show tgR (bn_int (lf (fiX (lN fiN))) 68) = true; rw [hFb.2]; exact fi_wk.1)) rfl (by decide) ⟨by omega, by omega⟩ (Nat.le_of_ble_eq_true rfl) rfl (fun r9 z9 M3 hp9 => ?_)
    obtain ⟨rfl, rfl, hf3, hE3, hg3, hB3, h183, h243⟩ := hp9
    have hk3 : md_k B M3 (B + 88) := hk2.mf hf3 rfl rfl
    refine hq_incN (pc := 812) (i := 2) (lo2 := [(2, .int (nI (i + 1))), (0, .ref B), (1, .int n)]) 0 (hz_dec kX12_init 395 rfl) rfl (by decide) rfl ?_
    refine hq_goto (pc := 815) (tgt := 785) (hz_dec kX12_init 396 rfl) (by decide) ?_
    refine hq_pick (pc := 785) [0, 1, 2] rfl ?_
    refine ih (nn - (i + 1)) (by omega) (i + 1) M3 rfl (by omega) ⟨(hf0.tr (hf2.mono (ks2 := [16, 37, 39]) (os2 := [1, 2, 3, 4, 5, 6, 7, 8, 10, 11, 12, 13, 14, 15, 16, 18, 19, 20, 21, 24, 25, 26, 27, 28, 29, 30, 31, 32, 33, 34, 35, 36]) rfl rfl)).tr (hf3.mono (ks2 := [16, 37, 39]) (os2 := [1, 2, 3, 4, 5, 6, 7, 8, 10, 11, 12, 13, 14, 15, 16, 18, 19, 20, 21, 24, 25, 26, 27, 28, 29, 30, 31, 32, 33, 34, 35, 36]) rfl rfl), hk3, hE3, ⟨(hf3.2.2 37 rfl).trans hFi2.1, by rw [fA_m hf3 (by decide) rfl]; exact hFi2.2⟩, fun v hv => ?_⟩
    rcases (show v < i ∨ v = i by omega) with c | c
    · obtain ⟨b1, b2, b3, b4, b5⟩ := hN v c
      have hne : v ≠ i := by omega
      have g := hg3 v hne
      refine ⟨(b1.mf hf2 rfl).ag g ((fi_I (lN fiN)).p Nat.one_pos) (fA_m hf3 (by decide) rfl), (g.s1 18 (by decide)).trans (by rw [fA_m hf2 (by decide) rfl]; exact b2), (g.a 24 128 (by decide) (j := 0) (by decide)).trans (by rw [fA_m hf2 (by decide) rfl]; exact b3), ?_, ?_⟩
      · rw [fA_m hf3 (by decide) rfl, e16]
        unfold upd
        rw [if_neg hne]
        exact b4
      · rw [fA_m hf3 (by decide) rfl, e19]
        unfold upd
        rw [if_neg hne]
        exact b5
    · subst c
      refine ⟨hB3, h183, h243, ?_, ?_⟩
      · rw [fA_m hf3 (by decide) rfl, e16]
        unfold upd
        rw [if_pos rfl]
        rfl
      · rw [fA_m hf3 (by decide) rfl, e19]
        unfold upd
        rw [if_pos rfl]
set_option maxHeartbeats 4000000 in
set_option maxRecDepth 100000 in
theorem c_i12_c {κ : hz_C} {B nn : Nat} {n : Int32} {M0 M : hz_M} (hB : 8 ≤ B) (hn1 : 1 ≤ nn) (hn6 : nn ≤ 6) (hI : x12I B 87 (fun q => if q = 103 then (nI 200000) else (fun q => if q = 55 then (-1) else (fun q => if q = 54 then (-1) else (fun _ => 0) q) q) q) M0 M) : hq_W κ xX12_init 8 87 523918 (fun r z2 M2 => none = r ∧ B + 88 = z2 ∧ (∀ q, q < B → M2 q = M0 q) ∧ hmR M2 z2 B (hoZ nn) ∧ fiM M2 B fiF) 87 523918 772 [(0, .ref B), (1, .int n)] [.int (nI nn), .ref B] (B + 88) M := by
  refine x12_f (pc := 772) hI hB (hz_dec kX12_init 371 rfl) fo_X12_289 ft_X12_1 (by decide) rfl (fun M1 h1 => ?_)
  obtain ⟨fs, hO, hF⟩ := id h1.O
  refine hq_aloadn (pc := 775) 0 (hz_dec kX12_init 372 rfl) rfl ?_
  refine hq_callVQ (pc := 776) (a := B) (As := []) (st := []) (hz_dec kX12_init 373 rfl) co_X12_292 im_X12_layNumbers se_X12_layNumbers rfl hO hB (by omega) (c_layN hB (by omega) h1.O h1.E) rfl (by decide) ⟨by omega, by omega⟩ (Nat.le_of_ble_eq_true rfl) rfl (fun r9 z9 M2 hp9 => ?_)
  obtain ⟨rfl, rfl, hf2, hE2, ha2, hb2⟩ := hp9
  have hk2 : md_k B M2 (B + 88) := ⟨hf2.2.1, ⟨_, hE2.a1, ha2⟩, ⟨_, hE2.a2, hb2⟩, hB, Nat.le_refl _⟩
  obtain ⟨⟨fs2, hO2, hF2⟩, -, -, -, -⟩ := id hk2
  refine hq_aloadn (pc := 779) 0 (hz_dec kX12_init 374 rfl) rfl ?_
  refine hq_callV (pc := 780) (a := B) (As := []) (st := []) (hz_dec kX12_init 375 rfl) co_X12_295 im_X12_layFirst se_X12_layFirst rfl hO2 hB (by omega) (c_layF hk2 hE2 (by rw [fA_m hf2 (by decide) rfl]; exact (h1.z (by decide) (by decide)).1)) rfl (by decide) ⟨by omega, by omega⟩ (Nat.le_of_ble_eq_true rfl) rfl (fun r9 z9 M3 hp9 => ?_)
  obtain ⟨rfl, rfl, hf3, hk3, hE3, h37, hA3⟩ := hp9
  refine hq_iconst (pc := 783) (v := nI 0) (hz_dec kX12_init 376 rfl) (by decide) ?_
  refine hq_istoren (pc := 784) (i := 2) (lo2 := [(2, .int (nI 0)), (0, .ref B), (1, .int n)]) (hz_dec kX12_init 377 rfl) rfl (by decide) rfl ?_
  refine hq_pick (pc := 785) [0, 1, 2] rfl ?_
  exact c_i12_l hB hn1 hn6 h1 nn 0 M3 rfl (Nat.zero_le _) ⟨(hf2.mono (ks2 := [16, 37, 39]) (os2 := [1, 2, 3, 4, 5, 6, 7, 8, 10, 11, 12, 13, 14, 15, 16, 18, 19, 20, 21, 24, 25, 26, 27, 28, 29, 30, 31, 32, 33, 34, 35, 36]) rfl rfl).tr (hf3.mono (ks2 := [16, 37, 39]) (os2 := [1, 2, 3, 4, 5, 6, 7, 8, 10, 11, 12, 13, 14, 15, 16, 18, 19, 20, 21, 24, 25, 26, 27, 28, 29, 30, 31, 32, 33, 34, 35, 36]) rfl rfl), hk3, hE3, ⟨by rw [show fiF.length = 103 from fiX_len _]; exact h37, hA3⟩, fun v hv => absurd hv (Nat.not_lt_zero v)⟩
set_option maxHeartbeats 4000000 in
set_option maxRecDepth 100000 in
theorem c_i12 {κ : hz_C} {B nn : Nat} {n : Int32} {M0 : hz_M} (hB : 8 ≤ B) (hn1 : 1 ≤ nn) (hn6 : nn ≤ 6) (hnn : mV n = nI nn) (h0 : M0 B = .inr (12, [.int (nI 0), .int (nI 0), .null, .null, .null, .null, .null, .null, .null, .null, .null, .null, .null, .null, .null, .null, .int (nI 0), .null, .null, .null, .null, .null, .null, .null, .null, .null, .null, .null, .null, .null, .null, .null, .null, .null, .null, .null, .null, .int (nI 0), .null, .int (nI 0), .null, .null, .null, .null, .null, .null, .null, .null, .null, .null, .null, .null, .null, .int (nI 0), .int (nI 0), .int (nI 0), .null, .null, .null, .long 0, .null, .int (nI 0), .null, .null, .null, .null, .null, .null, .null, .null, .null, .null, .null, .null, .null, .null, .null, .null, .null, .null, .null, .null, .null, .null, .null, .null, .int (nI 0), .int (nI 0), .int (nI 0), .int (nI 0), .null, .null, .int (nI 0), .null, .null, .int (nI 0), .int (nI 0), .null, .null, .null, .int (nI 0), .null, .null, .int (nI 0), .null, .null])) : hq_Mt κ xX12_init 8 87 523918 [.ref B, .int n] (B + 1) M0 (fun r z2 M2 => none = r ∧ B + 88 = z2 ∧ (∀ q, q < B → M2 q = M0 q) ∧ hmR M2 z2 B (hoZ nn) ∧ fiM M2 B fiF) := by
  refine hq_ent (lo := [(0, .ref B), (1, .int n)]) (by decide) (Nat.le_of_ble_eq_true rfl) rfl ?_
  refine hq_aloadn (pc := 0) 0 (hz_dec kX12_init 0 rfl) rfl ?_
  refine hq_obj (pc := 1) (hz_dec kX12_init 1 rfl) ob_X12_1 (by decide) (Nat.le_of_ble_eq_true rfl) ?_
  have hr := mV_r n
  refine x12_s0 hB (fun M hI => ?_) M0 (x12I.o h0)
  refine hq_aloadn (pc := 750) 0 (hz_dec kX12_init 359 rfl) rfl ?_
  refine hq_iloadn (pc := 751) 1 (hz_dec kX12_init 360 rfl) rfl ?_
  refine hq_iconst (pc := 752) (v := nI 1) (hz_dec kX12_init 361 rfl) (by decide) ?_
  refine hq_icmp_ge (pc := 753) (tgt := 760) (hz_dec kX12_init 362 rfl) (by decide) (fun h1 => ?_) (fun h1 => ?_)
  · skip
    refine hq_iloadn (pc := 760) 1 (hz_dec kX12_init 365 rfl) rfl ?_
    refine hq_bipush (pc := 761) (v := nI 6) (hz_dec kX12_init 366 rfl) (by decide) ?_
    refine hq_icmp_le (pc := 763) (tgt := 771) (hz_dec kX12_init 367 rfl) (by decide) (fun h2 => ?_) (fun h2 => ?_)
    · skip
      refine hq_iloadn (pc := 771) 1 (hz_dec kX12_init 370 rfl) rfl ?_
      refine hq_eqi (pc := 772) ((hr.2.2 (fun q => absurd h1 (Int32.not_le.mpr q)) (fun q => absurd h2 (Int32.not_le.mpr q))).symm.trans hnn) ?_
      exact c_i12_c hB hn1 hn6 hI
    · skip
      refine hq_bipush (pc := 766) (v := nI 6) (hz_dec kX12_init 368 rfl) (by decide) ?_
      refine hq_goto (pc := 768) (tgt := 772) (hz_dec kX12_init 369 rfl) (by decide) ?_
      refine hq_eqi (pc := 772) ((hr.2.1 (fun q => absurd h1 (Int32.not_le.mpr q)) (Int32.not_le.mp h2)).symm.trans hnn) ?_
      exact c_i12_c hB hn1 hn6 hI
  · skip
    refine hq_iconst (pc := 756) (v := nI 1) (hz_dec kX12_init 363 rfl) (by decide) ?_
    refine hq_goto (pc := 757) (tgt := 772) (hz_dec kX12_init 364 rfl) (by decide) ?_
    refine hq_eqi (pc := 772) ((hr.1 (Int32.not_le.mp h1)).symm.trans hnn) ?_
    exact c_i12_c hB hn1 hn6 hI
