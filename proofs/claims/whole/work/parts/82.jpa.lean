/-! a block's transactions are judged -/
def subS (h : Nat) : Nat := if 12 < h / 32 then 0 else 4096 / 2 ^ (h / 32)
theorem sub_shr : ∀ k, k ≤ 12 → nI 4096 >>> (nI k &&& 31) = nI (4096 / 2 ^ k) := by decide +kernel
theorem subS_le (h : Nat) : subS h ≤ 4096 := by
  unfold subS
  split
  · omega
  · exact Nat.div_le_self _ _
def jTs (l : by_L) (h : Nat) : Nat → Nat → List co_C → Int64 → Nat × List co_C × Int64
  | 0, _, cs, al => (0, cs, al)
  | m + 1, j, cs, al =>
    if (jSp cs (bkT l j) h).1 = 0 then
      if idS (bkT l j) = idS (bkT l 0) then (13, [], 0)
      else jTs l h m (j + 1) (coAp cs (bkT l j) (idS (bkT l j)) h) (al + (jSp cs (bkT l j) h).2)
    else ((jSp cs (bkT l j) h).1, [], 0)
def jPa (l : by_L) (h : Nat) (cs : List co_C) : Nat :=
  if (jTs l h (bkN l - 1) 1 cs 0).1 = 0 then
    if paS (bkT l 0) = none ∨ lN (subS h) + (jTs l h (bkN l - 1) 1 cs 0).2.2 < paV (paS (bkT l 0)) then 14
    else if coHs (jTs l h (bkN l - 1) 1 cs 0).2.1 (idS (bkT l 0)) = true then 13 else 0
  else (jTs l h (bkN l - 1) 1 cs 0).1
theorem jPa_v {l : by_L} {h v : Nat} {cs : List co_C} {x : List co_C × Int64} (e : jTs l h (bkN l - 1) 1 cs 0 = (v, x)) (hv : ¬ v = 0) : jPa l h cs = v := by
  unfold jPa
  rw [e]
  simp only [if_neg hv]
theorem jTs_v {l : by_L} {h m j : Nat} {cs : List co_C} {al : Int64} (e : ¬ (jSp cs (bkT l j) h).1 = 0) : jTs l h (m + 1) j cs al = ((jSp cs (bkT l j) h).1, [], 0) := by rw [jTs, if_neg e]
theorem jTs_13 {l : by_L} {h m j : Nat} {cs : List co_C} {al : Int64} (e : (jSp cs (bkT l j) h).1 = 0) (e2 : idS (bkT l j) = idS (bkT l 0)) : jTs l h (m + 1) j cs al = (13, [], 0) := by rw [jTs, if_pos e, if_pos e2]
theorem jTs_st {l : by_L} {h m j : Nat} {cs : List co_C} {al : Int64} (e : (jSp cs (bkT l j) h).1 = 0) (e2 : ¬ idS (bkT l j) = idS (bkT l 0)) : jTs l h (m + 1) j cs al = jTs l h m (j + 1) (coAp cs (bkT l j) (idS (bkT l j)) h) (al + (jSp cs (bkT l j) h).2) := by rw [jTs, if_pos e, if_neg e2]
def coHt (cs : List co_C) : Prop := ∀ c ∈ cs, c.2.2.2.2.1 < 100000
theorem coL_mem {cs : List co_C} {k : Nat} (h : k < cs.length) : coL cs k ∈ cs := by
  unfold coL
  rw [List.getD_eq_getElem?_getD, List.getElem?_eq_getElem h]
  exact List.getElem_mem h
theorem coHt.l {cs : List co_C} (h : coHt cs) : ∀ k, k < cs.length → (coL cs k).2.2.2.2.1 < 100000 := fun k hk => h _ (coL_mem hk)
theorem coHt.ap {cs : List co_C} {t : by_L} {iD : Int64} {h : Nat} (hc : coHt cs) (hh : h < 100000) : coHt (coAp cs t iD h) := by
  have s : ∀ k, coHt (coSp t cs k) := by
    intro k
    induction k with
    | zero => exact hc
    | succ k ih =>
      simp only [coSp]
      unfold coDrop
      split
      · exact fun c hq => ih c (List.mem_of_mem_eraseIdx hq)
      · exact ih
  have a : ∀ k, coHt (coAd t iD h (coSp t cs (txI t)) k) := by
    intro k
    induction k with
    | zero => exact s _
    | succ k ih =>
      intro c hq
      simp only [coAd] at hq
      rcases List.mem_append.mp hq with q | q
      · exact ih c q
      · rw [List.mem_singleton] at q
        rw [q]
        exact hh
  exact a _
theorem coAp_len {cs : List co_C} {t : by_L} {iD : Int64} {h : Nat} (ht : txO t ≤ 4) : (coAp cs t iD h).length ≤ cs.length + 4 := by
  unfold coAp
  rw [coAd_len]
  have q := coSp_len t cs (txI t)
  omega
set_option maxHeartbeats 4000000 in
set_option maxRecDepth 100000 in
theorem c_subs {κ : hz_C} {z : Nat} {M : hz_M} {h_ : Nat} (hh : h_ < 100000) : hz_Mt κ xX3_subsidyAt 0 0 0 [.int (nI h_)] z M (hz_ex (some (.int (nI (subS h_)))) z M) := by
  refine hz_ent (lo := [(0, .int (nI h_))]) (by decide) (Nat.le_of_ble_eq_true rfl) rfl ?_
  refine hz_iloadn (pc := 0) 0 (hz_dec kX3_subsidyAt 0 rfl) rfl ?_
  refine hz_bipush (pc := 1) (v := nI 32) (hz_dec kX3_subsidyAt 1 rfl) (by decide) ?_
  refine hz_divN (pc := 3) (hz_dec kX3_subsidyAt 2 rfl) (by omega) (by decide) (by decide) ?_
  refine hz_istoren (pc := 4) (i := 1) (lo2 := [(1, .int (nI (h_ / 32))), (0, .int (nI h_))]) (hz_dec kX3_subsidyAt 3 rfl) rfl (by decide) rfl ?_
  refine hz_iloadn (pc := 5) 0 (hz_dec kX3_subsidyAt 4 rfl) rfl ?_
  refine hz_z_lt (pc := 6) (tgt := 15) (hz_dec kX3_subsidyAt 5 rfl) (by decide) (by omega) ?_
  refine hz_iloadn (pc := 9) 0 (hz_dec kX3_subsidyAt 6 rfl) rfl ?_
  refine hz_bipush (pc := 10) (v := nI 12) (hz_dec kX3_subsidyAt 7 rfl) (by decide) ?_
  refine hz_n_le (pc := 12) (tgt := 19) (hz_dec kX3_subsidyAt 8 rfl) (by decide) (by omega) (by omega) (fun h1 => ?_) (fun h1 => ?_)
  · skip
    refine hz_sipush (pc := 19) (v := nI 4096) (hz_dec kX3_subsidyAt 11 rfl) (by decide) ?_
    refine hz_iloadn (pc := 22) 0 (hz_dec kX3_subsidyAt 12 rfl) rfl ?_
    refine hz_ishr (pc := 23) (hz_dec kX3_subsidyAt 13 rfl) ?_
    exact hz_iret (pc := 24) (hz_dec kX3_subsidyAt 14 rfl) rfl ⟨by unfold subS; rw [if_neg (by omega), ← sub_shr _ h1], rfl, rfl⟩
  · skip
    refine hz_iconst (pc := 15) (v := nI 0) (hz_dec kX3_subsidyAt 9 rfl) (by decide) ?_
    refine hz_goto (pc := 16) (tgt := 24) (hz_dec kX3_subsidyAt 10 rfl) (by decide) ?_
    exact hz_iret (pc := 24) (hz_dec kX3_subsidyAt 14 rfl) rfl ⟨by unfold subS; rw [if_pos (by omega)], rfl, rfl⟩
set_option maxHeartbeats 4000000 in
set_option maxRecDepth 100000 in
theorem c_msubs {κ : hz_C} {z : Nat} {M : hz_M} {h_ : Nat} (hh : h_ < 100000) : hz_Mt κ xX12_subsidy 0 0 0 [.int (nI h_)] z M (hz_ex (some (.int (nI (subS h_)))) z M) := by
  refine hz_ent (lo := [(0, .int (nI h_))]) (by decide) (Nat.le_of_ble_eq_true rfl) rfl ?_
  refine hz_iloadn (pc := 0) 0 (hz_dec kX12_subsidy 0 rfl) rfl ?_
  refine hz_bipush (pc := 1) (v := nI 32) (hz_dec kX12_subsidy 1 rfl) (by decide) ?_
  refine hz_divN (pc := 3) (hz_dec kX12_subsidy 2 rfl) (by omega) (by decide) (by decide) ?_
  refine hz_bipush (pc := 4) (v := nI 12) (hz_dec kX12_subsidy 3 rfl) (by decide) ?_
  refine hz_n_le (pc := 6) (tgt := 13) (hz_dec kX12_subsidy 4 rfl) (by decide) (by omega) (by omega) (fun h1 => ?_) (fun h1 => ?_)
  · skip
    refine hz_sipush (pc := 13) (v := nI 4096) (hz_dec kX12_subsidy 7 rfl) (by decide) ?_
    refine hz_iloadn (pc := 16) 0 (hz_dec kX12_subsidy 8 rfl) rfl ?_
    refine hz_bipush (pc := 17) (v := nI 32) (hz_dec kX12_subsidy 9 rfl) (by decide) ?_
    refine hz_divN (pc := 19) (hz_dec kX12_subsidy 10 rfl) (by omega) (by decide) (by decide) ?_
    refine hz_ishr (pc := 20) (hz_dec kX12_subsidy 11 rfl) ?_
    exact hz_iret (pc := 21) (hz_dec kX12_subsidy 12 rfl) rfl ⟨by unfold subS; rw [if_neg (by omega), ← sub_shr _ h1], rfl, rfl⟩
  · skip
    refine hz_iconst (pc := 9) (v := nI 0) (hz_dec kX12_subsidy 5 rfl) (by decide) ?_
    refine hz_goto (pc := 10) (tgt := 21) (hz_dec kX12_subsidy 6 rfl) (by decide) ?_
    exact hz_iret (pc := 21) (hz_dec kX12_subsidy 12 rfl) rfl ⟨by unfold subS; rw [if_pos (by omega)], rfl, rfl⟩
theorem jIn_lt (cs : List co_C) (t : by_L) (h : Nat) : ∀ m k acc, (jIn cs t h m k acc).1 < 12 := by
  intro m
  induction m with
  | zero => intro k acc; exact (by decide : 0 < 12)
  | succ m ih =>
    intro k acc
    simp only [jIn]
    split
    · split
      · exact (by decide : 10 < 12)
      · split
        · exact ih _ _
        · exact (by decide : 11 < 12)
    · exact (by decide : 10 < 12)
theorem jSp_lt (cs : List co_C) (t : by_L) (h : Nat) : (jSp cs t h).1 < 100 := by
  unfold jSp
  split
  · split
    · exact (by decide : 12 < 100)
    · split
      · exact (by decide : 13 < 100)
      · exact (by decide : 0 < 100)
  · have q := jIn_lt cs t h (txI t) 0 0
    show (jIn cs t h (txI t) 0 0).1 < 100
    omega
theorem ck_s.fs {M M2 : hz_M} (h : ck_s M) (e : ∀ q, 9 ≤ q → q < 20 → M2 q = M q) : ck_s M2 := by
  obtain ⟨⟨v10, h10⟩, ⟨u11, h11⟩, ⟨d12, h12⟩, ⟨p14, h14⟩, ⟨q15, h15⟩, ⟨q16, h16⟩, ⟨q17, h17⟩, ⟨q18, h18⟩, ⟨q19, h19⟩⟩ := h
  exact ⟨⟨v10, (e _ (by decide) (by decide)).trans h10⟩, ⟨u11, (e _ (by decide) (by decide)).trans h11⟩, ⟨d12, (e _ (by decide) (by decide)).trans h12⟩, ⟨p14, (e _ (by decide) (by decide)).trans h14⟩, ⟨q15, (e _ (by decide) (by decide)).trans h15⟩, ⟨q16, (e _ (by decide) (by decide)).trans h16⟩, ⟨q17, (e _ (by decide) (by decide)).trans h17⟩, ⟨q18, (e _ (by decide) (by decide)).trans h18⟩, ⟨q19, (e _ (by decide) (by decide)).trans h19⟩⟩
set_option maxHeartbeats 4000000 in
set_option maxRecDepth 100000 in
theorem c_oTs_l {κ : hz_C} {z : Nat} {M0 : hz_M} (hz : 63 ≤ z) {b n : Nat} {f s : Nat → Int32} {fi : Nat → Int64} {l : by_L} (hB0 : M0 b = .inl (1, n, .inl f)) (hb8 : 39 ≤ b) (hbz : b < z) (hn : n < 2 ^ 24) (hA : isA f 0 l) (hln : l.length ≤ n) (hW : blW l) (h340 : M0 34 = .inl (0, 9, .inl s)) (hs : ∀ j, j ≤ bkN l → s j = nI (bkS l j)) (h380 : M0 38 = .inl (2, 8, .inr (.inl fi))) (hfi : ∀ j, j < bkN l → fi j = idS (bkT l j)) {h_ : Nat} (hh : h_ < 100000) {bf : Int32} {cs0 : List co_C} : ∀ k j cs acc M, k = bkN l - j → 1 ≤ j → j ≤ bkN l → frS [(9, 20), (25, 34)] M0 M → ck_k M z → ck_s M → (∃ fe, juO M bf fe) → coR M 26 cs → coHt cs → cs.length ≤ 358 + 4 * j → jTs l h_ (bkN l - 1) 1 cs0 0 = jTs l h_ (bkN l - j) j cs acc → hz_W κ xX3_ofTransactions 4 0 0 (fun r z2 M2 => some (.int (nI (jPa l h_ cs0))) = r ∧ z = z2 ∧ frS [(9, 20), (25, 34)] M0 M2 ∧ ck_k M2 z ∧ ck_s M2 ∧ (∃ fe, juO M2 bf fe) ∧ ∃ cs2, coR M2 26 cs2) 0 0 10 [(6, .int (nI j)), (4, .long (lN (subS h_) + acc)), (0, .ref 25), (1, .ref b), (2, .int (nI (bkN l))), (3, .int (nI h_))] [] z M := by
  intro k
  induction k using Nat.strongRecOn with
  | ind k ih =>
  intro j cs acc M hk hj1 hj hfr hck hcs hje hc hht hlen hjn
  obtain ⟨hbf1, hbf2, hbf3, hbf4, hbf5, hbf6, hbf7⟩ := hW.f
  have hB : M b = .inl (1, n, .inl f) := (hfr.at2 (by omega)).trans hB0
  have h34 : M 34 = .inl (0, 9, .inl s) := (hfr.at2 (by omega)).trans h340
  have h38 : M 38 = .inl (2, 8, .inr (.inl fi)) := (hfr.at2 (by omega)).trans h380
  have hln9 := hW.len
  obtain ⟨fe, hj9⟩ := id hje
  refine hz_iload (pc := 10) 0 (hz_dec kX3_ofTransactions 6 rfl) rfl ?_
  refine hz_iloadn (pc := 12) 4 (hz_dec kX3_ofTransactions 7 rfl) rfl ?_
  refine hz_n_ge (pc := 13) (tgt := 132) (hz_dec kX3_ofTransactions 8 rfl) (by decide) (by omega) (by omega) (fun h0 => ?_) (fun h0 => ?_)
  · skip
    have e : j = bkN l := by omega
    have hjn2 : jTs l h_ (bkN l - 1) 1 cs0 0 = (0, cs, acc) := by rw [hjn, e, Nat.sub_self]; rfl
    have t0 := hW.t (j := 0) (by omega)
    have tA := hW.A hA (j := 0) (by omega)
    rw [Nat.zero_add] at tA
    obtain ⟨w1, w2, w3, w4, w5⟩ := txW_sz t0.2.1
    refine hz_aloadn (pc := 132) 3 (hz_dec kX3_ofTransactions 74 rfl) rfl ?_
    refine hz_aloadn (pc := 133) 2 (hz_dec kX3_ofTransactions 75 rfl) rfl ?_
    refine hz_get (pc := 134) (hz_dec kX3_ofTransactions 76 rfl) fo_X3_18 hj9 (by omega) (by omega) rfl ?_
    refine hz_iconst (pc := 137) (v := nI 0) (hz_dec kX3_ofTransactions 77 rfl) (by decide) ?_
    refine hz_iald (pc := 138) (j := 0) (hz_dec kX3_ofTransactions 78 rfl) h34 (by omega) (by omega) rfl (by omega) (by omega) ?_
    refine hz_eqi (pc := 139) (hs (0) (by omega)) ?_
    refine hz_xS (pc := 139) (As := [.ref b, .int (nI (bkS l (0)))]) (st := []) (hz_dec kX3_ofTransactions 79 rfl) co_X3_154 sc_X0_paidBy (c_paid hB (by omega) hbz (by omega) tA (by omega) t0.2.1) rfl (by decide) ⟨Nat.le_refl _, Nat.le_refl _⟩ (Nat.le_of_ble_eq_true rfl) rfl ?_
    refine hz_lstore (pc := 142) (i := 6) (lo2 := [(6, .long (paV (paS (bkT l 0)))), (4, .long (lN (subS h_) + acc)), (0, .ref 25), (1, .ref b), (2, .int (nI (bkN l))), (3, .int (nI h_))]) (hz_dec kX3_ofTransactions 80 rfl) (by decide) rfl ?_
    refine hz_lload (pc := 144) 0 (hz_dec kX3_ofTransactions 81 rfl) rfl ?_
    refine hz_lconst (pc := 146) (v := 0) (hz_dec kX3_ofTransactions 82 rfl) (by decide) ?_
    refine hz_lcmp (pc := 147) (hz_dec kX3_ofTransactions 83 rfl) ?_
    refine hz_if_lt (pc := 148) (tgt := 159) (hz_dec kX3_ofTransactions 84 rfl) (by decide) (fun h1 => ?_) (fun h1 => ?_)
    · skip
      have e9 : jPa l h_ cs0 = 14 := by unfold jPa; rw [hjn2]; simp only [if_true]; rw [if_pos (Or.inl ((paV_neg w3).mp ((lg_cmp_lt _ _).mp h1)))]
      refine hz_bipush (pc := 159) (v := nI 14) (hz_dec kX3_ofTransactions 89 rfl) (by decide) ?_
      exact hz_iret (pc := 161) (hz_dec kX3_ofTransactions 90 rfl) rfl ⟨by rw [e9], rfl, hfr, hck, hcs, hje, ⟨cs, hc⟩⟩
    · skip
      refine hz_lload (pc := 151) 0 (hz_dec kX3_ofTransactions 85 rfl) rfl ?_
      refine hz_lload (pc := 153) 1 (hz_dec kX3_ofTransactions 86 rfl) rfl ?_
      refine hz_lcmp (pc := 155) (hz_dec kX3_ofTransactions 87 rfl) ?_
      refine hz_if_le (pc := 156) (tgt := 162) (hz_dec kX3_ofTransactions 88 rfl) (by decide) (fun h2 => ?_) (fun h2 => ?_)
      · skip
        have c9 : ¬ (paS (bkT l 0) = none ∨ lN (subS h_) + acc < paV (paS (bkT l 0))) := fun q => q.elim (fun q => h1 ((lg_cmp_lt _ _).mpr ((paV_neg w3).mpr q))) (fun q => Int64.not_lt.mpr ((lg_cmp_le _ _).mp h2) q)
        refine hz_aloadn (pc := 162) 2 (hz_dec kX3_ofTransactions 91 rfl) rfl ?_
        refine hz_get (pc := 163) (hz_dec kX3_ofTransactions 92 rfl) fo_X3_12 hj9 (by omega) (by omega) rfl ?_
        refine hz_aloadn (pc := 166) 2 (hz_dec kX3_ofTransactions 93 rfl) rfl ?_
        refine hz_get (pc := 167) (hz_dec kX3_ofTransactions 94 rfl) fo_X3_32 hj9 (by omega) (by omega) rfl ?_
        refine hz_iconst (pc := 170) (v := nI 0) (hz_dec kX3_ofTransactions 95 rfl) (by decide) ?_
        refine hz_lald (pc := 171) (j := 0) (hz_dec kX3_ofTransactions 96 rfl) h38 (by omega) (by omega) rfl (by omega) (by omega) ?_
        refine hz_eql (pc := 172) (hfi (0) (by omega)) ?_
        refine hz_xV (pc := 172) (a := 26) (As := [.long (idS (bkT l (0)))]) (st := []) (hz_dec kX3_ofTransactions 97 rfl) co_X3_158 im_X1_holds se_X1_holds rfl hc.1 (by omega) (by omega) (c_coHs hc (by omega) (by omega)) rfl (by decide) ⟨Nat.le_refl _, Nat.le_refl _⟩ (Nat.le_of_ble_eq_true rfl) rfl ?_
        refine hz_if_eq (pc := 175) (tgt := 183) (hz_dec kX3_ofTransactions 98 rfl) (by decide) (fun h3 => ?_) (fun h3 => ?_)
        · skip
          have e9 : jPa l h_ cs0 = 0 := by unfold jPa; rw [hjn2]; simp only [if_true]; rw [if_neg c9, if_neg (by rw [hz_b0 h3]; decide)]
          refine hz_iconst (pc := 183) (v := nI 0) (hz_dec kX3_ofTransactions 101 rfl) (by decide) ?_
          exact hz_iret (pc := 184) (hz_dec kX3_ofTransactions 102 rfl) rfl ⟨by rw [e9], rfl, hfr, hck, hcs, hje, ⟨cs, hc⟩⟩
        · skip
          have e9 : jPa l h_ cs0 = 13 := by unfold jPa; rw [hjn2]; simp only [if_true]; rw [if_neg c9, if_pos (hz_b1 h3)]
          refine hz_bipush (pc := 178) (v := nI 13) (hz_dec kX3_ofTransactions 99 rfl) (by decide) ?_
          refine hz_goto (pc := 180) (tgt := 184) (hz_dec kX3_ofTransactions 100 rfl) (by decide) ?_
          exact hz_iret (pc := 184) (hz_dec kX3_ofTransactions 102 rfl) rfl ⟨by rw [e9], rfl, hfr, hck, hcs, hje, ⟨cs, hc⟩⟩
      · skip
        have e9 : jPa l h_ cs0 = 14 := by unfold jPa; rw [hjn2]; simp only [if_true]; rw [if_pos (Or.inr (Int64.not_le.mp (fun q => h2 ((lg_cmp_le _ _).mpr q))))]
        refine hz_bipush (pc := 159) (v := nI 14) (hz_dec kX3_ofTransactions 89 rfl) (by decide) ?_
        exact hz_iret (pc := 161) (hz_dec kX3_ofTransactions 90 rfl) rfl ⟨by rw [e9], rfl, hfr, hck, hcs, hje, ⟨cs, hc⟩⟩
  · skip
    have tj := hW.t (j := j) (by omega)
    have tA := hW.A hA (j := j) (by omega)
    rw [Nat.zero_add] at tA
    obtain ⟨w1, w2, w3, w4, w5⟩ := txW_sz tj.2.1
    refine hz_iload (pc := 16) 0 (hz_dec kX3_ofTransactions 9 rfl) rfl ?_
    refine hz_bipush (pc := 18) (v := nI 8) (hz_dec kX3_ofTransactions 10 rfl) (by decide) ?_
    refine hz_n_ge (pc := 20) (tgt := 132) (hz_dec kX3_ofTransactions 11 rfl) (by decide) (by omega) (by omega) (fun h8 => ?_) (fun h8 => ?_)
    · skip
      exact absurd h8 (by omega)
    · skip
      refine hz_aloadn (pc := 23) 2 (hz_dec kX3_ofTransactions 12 rfl) rfl ?_
      refine hz_aloadn (pc := 24) 2 (hz_dec kX3_ofTransactions 13 rfl) rfl ?_
      refine hz_get (pc := 25) (hz_dec kX3_ofTransactions 14 rfl) fo_X3_12 hj9 (by omega) (by omega) rfl ?_
      refine hz_aloadn (pc := 28) 3 (hz_dec kX3_ofTransactions 15 rfl) rfl ?_
      refine hz_aloadn (pc := 29) 2 (hz_dec kX3_ofTransactions 16 rfl) rfl ?_
      refine hz_get (pc := 30) (hz_dec kX3_ofTransactions 17 rfl) fo_X3_18 hj9 (by omega) (by omega) rfl ?_
      refine hz_iload (pc := 33) 0 (hz_dec kX3_ofTransactions 18 rfl) rfl ?_
      refine hz_iald (pc := 35) (j := j) (hz_dec kX3_ofTransactions 19 rfl) h34 (by omega) (by omega) rfl (by omega) (by omega) ?_
      refine hz_eqi (pc := 36) (hs (j) (by omega)) ?_
      refine hz_aloadn (pc := 36) 2 (hz_dec kX3_ofTransactions 20 rfl) rfl ?_
      refine hz_get (pc := 37) (hz_dec kX3_ofTransactions 21 rfl) fo_X3_18 hj9 (by omega) (by omega) rfl ?_
      refine hz_iload (pc := 40) 0 (hz_dec kX3_ofTransactions 22 rfl) rfl ?_
      refine hz_iconst (pc := 42) (v := nI 1) (hz_dec kX3_ofTransactions 23 rfl) (by decide) ?_
      refine hz_addN (pc := 43) (hz_dec kX3_ofTransactions 24 rfl) ?_
      refine hz_iald (pc := 44) (j := j + 1) (hz_dec kX3_ofTransactions 25 rfl) h34 (by omega) (by omega) rfl (by omega) (by omega) ?_
      refine hz_eqi (pc := 45) (hs (j + 1) (by omega)) ?_
      refine hz_aloadn (pc := 45) 2 (hz_dec kX3_ofTransactions 26 rfl) rfl ?_
      refine hz_get (pc := 46) (hz_dec kX3_ofTransactions 27 rfl) fo_X3_18 hj9 (by omega) (by omega) rfl ?_
      refine hz_iload (pc := 49) 0 (hz_dec kX3_ofTransactions 28 rfl) rfl ?_
      refine hz_iald (pc := 51) (j := j) (hz_dec kX3_ofTransactions 29 rfl) h34 (by omega) (by omega) rfl (by omega) (by omega) ?_
      refine hz_eqi (pc := 52) (hs (j) (by omega)) ?_
      refine hz_subN (pc := 52) (hz_dec kX3_ofTransactions 30 rfl) (by omega) ?_
      refine hz_aloadn (pc := 53) 2 (hz_dec kX3_ofTransactions 31 rfl) rfl ?_
      refine hz_get (pc := 54) (hz_dec kX3_ofTransactions 32 rfl) fo_X3_32 hj9 (by omega) (by omega) rfl ?_
      refine hz_iload (pc := 57) 0 (hz_dec kX3_ofTransactions 33 rfl) rfl ?_
      refine hz_lald (pc := 59) (j := j) (hz_dec kX3_ofTransactions 34 rfl) h38 (by omega) (by omega) rfl (by omega) (by omega) ?_
      refine hz_eql (pc := 60) (hfi (j) (by omega)) ?_
      refine hz_iloadn (pc := 60) 5 (hz_dec kX3_ofTransactions 35 rfl) rfl ?_
      rw [show (bkS l (j + 1)) - (bkS l j) = (bkT l j).length by omega]
      refine hz_callV (pc := 61) (a := 25) (As := [.ref 26, .ref b, .int (nI (bkS l (j))), .int (nI ((bkT l j).length)), .long (idS (bkT l (j))), .int (nI h_)]) (st := []) (hz_dec kX3_ofTransactions 36 rfl) co_X3_142 im_X3_ofTransaction se_X3_ofTransaction rfl hj9 (by omega) (by omega) (c_oft hck hc (by omega) (by omega) hB (by omega) hbz (by omega) tA (by omega) tj.2.1 hh hht.l rfl hcs hj9) rfl (by decide) ⟨Nat.le_refl _, Nat.le_refl _⟩ (Nat.le_of_ble_eq_true rfl) rfl (fun r9 z9 M2 hp9 => ?_)
      obtain ⟨rfl, rfl, hf2, hck2, hcs2, fe2, hj2, hfee⟩ := hp9
      have hfr2 : frS [(9, 20), (25, 34)] M0 M2 := hfr.tr (hf2.mono (fun q hq => by simp only [outS, and_true] at hq ⊢; omega))
      have hc2 : coR M2 26 cs := hc.fr (fun q h1 h2 => hf2.at2 (by omega))
      have hB2 : M2 b = .inl (1, n, .inl f) := (hfr2.at2 (by omega)).trans hB0
      have h342 : M2 34 = .inl (0, 9, .inl s) := (hfr2.at2 (by omega)).trans h340
      have h382 : M2 38 = .inl (2, 8, .inr (.inl fi)) := (hfr2.at2 (by omega)).trans h380
      have hv9 : (jSp cs (bkT l j) h_).1 < 100 := jSp_lt _ _ _
      refine hz_istore (pc := 64) (i := 7) (lo2 := [(7, .int (nI ((jSp cs (bkT l j) h_).1))), (6, .int (nI j)), (4, .long (lN (subS h_) + acc)), (0, .ref 25), (1, .ref b), (2, .int (nI (bkN l))), (3, .int (nI h_))]) (hz_dec kX3_ofTransactions 37 rfl) (by decide) rfl ?_
      refine hz_iload (pc := 66) 0 (hz_dec kX3_ofTransactions 38 rfl) rfl ?_
      refine hz_z_eq (pc := 68) (tgt := 74) (hz_dec kX3_ofTransactions 39 rfl) (by decide) (by omega) (fun h2 => ?_) (fun h2 => ?_)
      · skip
        refine hz_aloadn (pc := 74) 3 (hz_dec kX3_ofTransactions 42 rfl) rfl ?_
        refine hz_get (pc := 75) (hz_dec kX3_ofTransactions 43 rfl) fo_X3_32 hj2 (by omega) (by omega) rfl ?_
        refine hz_iload (pc := 78) 1 (hz_dec kX3_ofTransactions 44 rfl) rfl ?_
        refine hz_lald (pc := 80) (j := j) (hz_dec kX3_ofTransactions 45 rfl) h382 (by omega) (by omega) rfl (by omega) (by omega) ?_
        refine hz_eql (pc := 81) (hfi (j) (by omega)) ?_
        refine hz_aloadn (pc := 81) 3 (hz_dec kX3_ofTransactions 46 rfl) rfl ?_
        refine hz_get (pc := 82) (hz_dec kX3_ofTransactions 47 rfl) fo_X3_32 hj2 (by omega) (by omega) rfl ?_
        refine hz_iconst (pc := 85) (v := nI 0) (hz_dec kX3_ofTransactions 48 rfl) (by decide) ?_
        refine hz_lald (pc := 86) (j := 0) (hz_dec kX3_ofTransactions 49 rfl) h382 (by omega) (by omega) rfl (by omega) (by omega) ?_
        refine hz_eql (pc := 87) (hfi (0) (by omega)) ?_
        refine hz_lcmp (pc := 87) (hz_dec kX3_ofTransactions 50 rfl) ?_
        refine hz_if_ne (pc := 88) (tgt := 94) (hz_dec kX3_ofTransactions 51 rfl) (by decide) (fun h3 => ?_) (fun h3 => ?_)
        · skip
          have hfee2 := hfee h2
          refine hz_lload (pc := 94) 2 (hz_dec kX3_ofTransactions 54 rfl) rfl ?_
          refine hz_aloadn (pc := 96) 3 (hz_dec kX3_ofTransactions 55 rfl) rfl ?_
          refine hz_get (pc := 97) (hz_dec kX3_ofTransactions 56 rfl) fo_X3_146 hj2 (by omega) (by omega) rfl ?_
          refine hz_ladd (pc := 100) (hz_dec kX3_ofTransactions 57 rfl) ?_
          refine hz_lstore (pc := 101) (i := 4) (lo2 := [(4, .long ((lN (subS h_) + acc) + (fe2))), (7, .int (nI ((jSp cs (bkT l j) h_).1))), (6, .int (nI j)), (0, .ref 25), (1, .ref b), (2, .int (nI (bkN l))), (3, .int (nI h_))]) (hz_dec kX3_ofTransactions 58 rfl) (by decide) rfl ?_
          refine hz_aloadn (pc := 103) 3 (hz_dec kX3_ofTransactions 59 rfl) rfl ?_
          refine hz_get (pc := 104) (hz_dec kX3_ofTransactions 60 rfl) fo_X3_12 hj2 (by omega) (by omega) rfl ?_
          refine hz_aloadn (pc := 107) 4 (hz_dec kX3_ofTransactions 61 rfl) rfl ?_
          refine hz_aloadn (pc := 108) 3 (hz_dec kX3_ofTransactions 62 rfl) rfl ?_
          refine hz_get (pc := 109) (hz_dec kX3_ofTransactions 63 rfl) fo_X3_18 hj2 (by omega) (by omega) rfl ?_
          refine hz_iload (pc := 112) 2 (hz_dec kX3_ofTransactions 64 rfl) rfl ?_
          refine hz_iald (pc := 114) (j := j) (hz_dec kX3_ofTransactions 65 rfl) h342 (by omega) (by omega) rfl (by omega) (by omega) ?_
          refine hz_eqi (pc := 115) (hs (j) (by omega)) ?_
          refine hz_aloadn (pc := 115) 3 (hz_dec kX3_ofTransactions 66 rfl) rfl ?_
          refine hz_get (pc := 116) (hz_dec kX3_ofTransactions 67 rfl) fo_X3_32 hj2 (by omega) (by omega) rfl ?_
          refine hz_iload (pc := 119) 2 (hz_dec kX3_ofTransactions 68 rfl) rfl ?_
          refine hz_lald (pc := 121) (j := j) (hz_dec kX3_ofTransactions 69 rfl) h382 (by omega) (by omega) rfl (by omega) (by omega) ?_
          refine hz_eql (pc := 122) (hfi (j) (by omega)) ?_
          refine hz_iloadn (pc := 122) 6 (hz_dec kX3_ofTransactions 70 rfl) rfl ?_
          refine hz_callV (pc := 123) (a := 26) (As := [.ref b, .int (nI (bkS l (j))), .long (idS (bkT l (j))), .int (nI h_)]) (st := []) (hz_dec kX3_ofTransactions 71 rfl) co_X3_150 im_X1_apply se_X1_apply rfl hc2.1 (by omega) (by omega) (c_coAp hc2 (by omega) (by omega) hB2 (by omega) hbz (by omega) tA (by omega) tj.2.1 (by omega) (by omega)) rfl (by decide) ⟨Nat.le_refl _, Nat.le_refl _⟩ (Nat.le_of_ble_eq_true rfl) rfl (fun r9 z9 M3 hp9 => ?_)
          obtain ⟨rfl, rfl, hf3, hc3⟩ := hp9
          have hfr3 : frS [(9, 20), (25, 34)] M0 M3 := hfr2.tr (hf3.mono (fun q hq => by simp only [outS, and_true] at hq ⊢; omega))
          have hck3 : ck_k M3 z := hck2.fs (hf3.at1 (by omega)) (hf3.at1 (by omega))
          have hcs3 : ck_s M3 := hcs2.fs (fun q h1 h2 => hf3.at1 (by omega))
          have hj3 : juO M3 bf fe2 := (hf3.at1 (by omega)).trans hj2
          have hal : lN (subS h_) + acc + fe2 = lN (subS h_) + (acc + (jSp cs (bkT l j) h_).2) := by rw [hfee2, Int64.add_assoc]
          refine hz_incN (pc := 126) (i := 6) (lo2 := [(6, .int (nI (j + 1))), (4, .long ((lN (subS h_) + acc) + (fe2))), (7, .int (nI ((jSp cs (bkT l j) h_).1))), (0, .ref 25), (1, .ref b), (2, .int (nI (bkN l))), (3, .int (nI h_))]) 2 (hz_dec kX3_ofTransactions 72 rfl) rfl (by decide) rfl ?_
          refine hz_goto (pc := 129) (tgt := 10) (hz_dec kX3_ofTransactions 73 rfl) (by decide) ?_
          refine hz_pick (pc := 10) [0, 1, 3, 4, 5, 6] rfl ?_
          rw [hal]
          have hl9 := coAp_len (cs := cs) (t := bkT l j) (iD := idS (bkT l j)) (h := h_) w3
          refine ih (bkN l - (j + 1)) (by omega) (j + 1) _ _ M3 rfl (by omega) (by omega) hfr3 hck3 hcs3 ⟨fe2, hj3⟩ hc3 (hht.ap hh) (by omega) (hjn.trans ?_)
          rw [show bkN l - j = (bkN l - (j + 1)) + 1 by omega]
          exact jTs_st h2 (fun q => h3 ((lg_cmp_eq _ _).mpr q))
        · skip
          have e9 : jPa l h_ cs0 = 13 := jPa_v (hjn.trans (by rw [show bkN l - j = (bkN l - (j + 1)) + 1 by omega]; exact jTs_13 h2 ((lg_cmp_eq _ _).mp h3))) (by decide)
          refine hz_bipush (pc := 91) (v := nI 13) (hz_dec kX3_ofTransactions 52 rfl) (by decide) ?_
          exact hz_iret (pc := 93) (hz_dec kX3_ofTransactions 53 rfl) rfl ⟨by rw [e9], rfl, hfr2, hck2, hcs2, ⟨fe2, hj2⟩, ⟨cs, hc2⟩⟩
      · skip
        have e9 : jPa l h_ cs0 = (jSp cs (bkT l j) h_).1 := jPa_v (hjn.trans (by rw [show bkN l - j = (bkN l - (j + 1)) + 1 by omega]; exact jTs_v (by omega))) (by omega)
        refine hz_iload (pc := 71) 0 (hz_dec kX3_ofTransactions 40 rfl) rfl ?_
        exact hz_iret (pc := 73) (hz_dec kX3_ofTransactions 41 rfl) rfl ⟨by rw [e9], rfl, hfr2, hck2, hcs2, ⟨fe2, hj2⟩, ⟨cs, hc2⟩⟩
set_option maxHeartbeats 4000000 in
set_option maxRecDepth 100000 in
theorem c_oTs {κ : hz_C} {z : Nat} {M : hz_M} (hz : 63 ≤ z) {b n : Nat} {f s : Nat → Int32} {fi : Nat → Int64} {l : by_L} (hB0 : M b = .inl (1, n, .inl f)) (hb8 : 39 ≤ b) (hbz : b < z) (hn : n < 2 ^ 24) (hA : isA f 0 l) (hln : l.length ≤ n) (hW : blW l) (h340 : M 34 = .inl (0, 9, .inl s)) (hs : ∀ j, j ≤ bkN l → s j = nI (bkS l j)) (h380 : M 38 = .inl (2, 8, .inr (.inl fi))) (hfi : ∀ j, j < bkN l → fi j = idS (bkT l j)) {h_ : Nat} (hh : h_ < 100000) {bf : Int32} {cs0 : List co_C} (hck : ck_k M z) (hcs : ck_s M) {fe : Int64} (hj9 : juO M bf fe) (hc : coR M 26 cs0) (hht : coHt cs0) (hlen : cs0.length ≤ 360) : hz_Mt κ xX3_ofTransactions 4 0 0 [.ref 25, .ref b, .int (nI (bkN l)), .int (nI h_)] z M (fun r z2 M2 => some (.int (nI (jPa l h_ cs0))) = r ∧ z = z2 ∧ frS [(9, 20), (25, 34)] M M2 ∧ ck_k M2 z ∧ ck_s M2 ∧ (∃ fe, juO M2 bf fe) ∧ ∃ cs2, coR M2 26 cs2) := by
  refine hz_ent (lo := [(0, .ref 25), (1, .ref b), (2, .int (nI (bkN l))), (3, .int (nI h_))]) (by decide) (Nat.le_of_ble_eq_true rfl) rfl ?_
  obtain ⟨hbf1, hbf2, hbf3, hbf4, hbf5, hbf6, hbf7⟩ := hW.f
  have hsl := subS_le h_
  refine hz_iloadn (pc := 0) 3 (hz_dec kX3_ofTransactions 0 rfl) rfl ?_
  refine hz_xS (pc := 1) (As := [.int (nI h_)]) (st := []) (hz_dec kX3_ofTransactions 1 rfl) co_X3_139 sc_X3_subsidyAt (c_subs hh) rfl (by decide) ⟨Nat.le_refl _, Nat.le_refl _⟩ (Nat.le_of_ble_eq_true rfl) rfl ?_
  refine hz_i2l (pc := 4) (hz_dec kX3_ofTransactions 2 rfl) ?_
  refine hz_eql (pc := 5) (show (nI (subS h_)).toInt64 = lN (subS h_) + 0 by rw [nI_l (by omega), Int64.add_zero]) ?_
  refine hz_lstore (pc := 5) (i := 4) (lo2 := [(4, .long (lN (subS h_) + 0)), (0, .ref 25), (1, .ref b), (2, .int (nI (bkN l))), (3, .int (nI h_))]) (hz_dec kX3_ofTransactions 3 rfl) (by decide) rfl ?_
  refine hz_iconst (pc := 7) (v := nI 1) (hz_dec kX3_ofTransactions 4 rfl) (by decide) ?_
  refine hz_istore (pc := 8) (i := 6) (lo2 := [(6, .int (nI 1)), (4, .long (lN (subS h_) + 0)), (0, .ref 25), (1, .ref b), (2, .int (nI (bkN l))), (3, .int (nI h_))]) (hz_dec kX3_ofTransactions 5 rfl) (by decide) rfl ?_
  refine hz_pick (pc := 10) [0, 1, 2, 3, 4, 5] rfl ?_
  exact c_oTs_l hz hB0 hb8 hbz hn hA hln hW h340 hs h380 hfi hh (bkN l - 1) 1 cs0 0 M rfl (by omega) (by omega) frS.rf hck hcs ⟨fe, hj9⟩ hc hht (by omega) rfl
