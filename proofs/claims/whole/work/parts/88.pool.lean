/-! a transaction is judged for a pool -/
abbrev po_P : Type := by_L × Int64
def poL (po : List po_P) (k : Nat) : by_L := (po.getD k ([], 0)).1
def poV (po : List po_P) (k : Nat) : Int64 := (po.getD k ([], 0)).2
theorem rowL_po (po : List po_P) (k : Nat) : rowL (po.map Prod.fst) k = poL po k := by
  unfold rowL poL
  rw [List.getD_eq_getElem?_getD, List.getElem?_map, List.getD_eq_getElem?_getD]
  cases po[k]? with
  | none => rfl
  | some b => rfl
theorem dupF_iff {f g : Nat → Int32} {a b : Nat} : ∀ n, dupF f g a b n = true ↔ ∃ i, i < n ∧ smB f g (a + 2 + 73 * i) b 9 = true := by
  intro n
  induction n with
  | zero => exact ⟨fun h => Bool.noConfusion h, fun ⟨i, hi, _⟩ => absurd hi (Nat.not_lt_zero i)⟩
  | succ n ih =>
    simp only [dupF, Bool.or_eq_true, ih]
    constructor
    · rintro (⟨i, h1, h2⟩ | h)
      · exact ⟨i, by omega, h2⟩
      · exact ⟨n, by omega, h⟩
    · rintro ⟨i, h1, h2⟩
      rcases (show i < n ∨ i = n by omega) with c | c
      · exact Or.inl ⟨i, c, h2⟩
      · subst c; exact Or.inr h2
/-- an input of p is one of t -/
def clB (p t : by_L) : Bool := (List.range (txI t)).any (fun j => dupF (lf p) (lf t) 0 (2 + 73 * j) (txI p))
def clX (po : List po_P) (t : by_L) : Bool := (List.range po.length).any (fun k => clB (poL po k) t)
theorem clB_iff {p t : by_L} : clB p t = true ↔ ∃ i j, i < txI p ∧ j < txI t ∧ smB (lf p) (lf t) (2 + 73 * i) (2 + 73 * j) 9 = true := by
  unfold clB
  rw [List.any_eq_true]
  constructor
  · rintro ⟨j, hj, h⟩
    obtain ⟨i, hi, h2⟩ := (dupF_iff _).mp h
    rw [Nat.zero_add] at h2
    exact ⟨i, j, hi, List.mem_range.mp hj, h2⟩
  · rintro ⟨i, j, hi, hj, h⟩
    exact ⟨j, List.mem_range.mpr hj, (dupF_iff _).mpr ⟨i, hi, by rw [Nat.zero_add]; exact h⟩⟩
theorem clX_t {po : List po_P} {t : by_L} {k : Nat} (hk : k < po.length) (h : clB (poL po k) t = true) : clX po t = true := List.any_eq_true.mpr ⟨k, List.mem_range.mpr hk, h⟩
theorem clX_f {po : List po_P} {t : by_L} (h : ∀ k, k < po.length → clB (poL po k) t = false) : clX po t = false := by
  cases e : clX po t with
  | false => rfl
  | true =>
    obtain ⟨k, hk, h2⟩ := List.any_eq_true.mp e
    rw [h k (List.mem_range.mp hk)] at h2
    cases h2
def poF (po : List po_P) (t : by_L) : Nat := fsI (fun k => smS (poL po k) t) po.length
def jPo (po : List po_P) (cs : List co_C) (t : by_L) (h : Nat) : Nat :=
  if ¬ txS t = t.length ∨ t.length = 0 then 1 else if poF po t < po.length then 2 else if txI t = 0 then 5 else if ¬ (jSp cs t h).1 = 0 then (jSp cs t h).1
  else if clX po t = true then 16 else if 16 ≤ po.length then 15 else 0
/-- what a pool holds are transactions that spend -/
def poW (po : List po_P) : Prop := po.length ≤ 16 ∧ ∀ k, k < po.length → txW (poL po k) ∧ 0 < txI (poL po k)
theorem poW_off {po : List po_P} (h : poW po) : ∀ k, k ≤ po.length → offL (po.map Prod.fst) k ≤ 358 * k := by
  intro k
  induction k with
  | zero => intro _; exact Nat.le_refl _
  | succ k ih =>
    intro hk
    have q := txW_len (h.2 k (by omega)).1
    have r := ih (by omega)
    simp only [offL]
    rw [rowL_po]
    omega
theorem poL_app {po : List po_P} {t : po_P} {j : Nat} (h : j < po.length) : poL (po ++ [t]) j = poL po j ∧ poV (po ++ [t]) j = poV po j := by
  unfold poL poV
  rw [List.getD_eq_getElem?_getD, List.getD_eq_getElem?_getD, List.getElem?_append_left h]
  exact ⟨rfl, rfl⟩
theorem poL_last {po : List po_P} {t : po_P} : poL (po ++ [t]) po.length = t.1 ∧ poV (po ++ [t]) po.length = t.2 := by
  unfold poL poV
  rw [List.getD_eq_getElem?_getD, List.getElem?_append_right (Nat.le_refl _), Nat.sub_self]
  exact ⟨rfl, rfl⟩
set_option maxHeartbeats 4000000 in
set_option maxRecDepth 100000 in
theorem c_cla_i {κ : hz_C} {z : Nat} {M : hz_M} {a : Nat} {po : List po_P} (h : rwR M a 5728 16 (po.map Prod.fst)) (hpw : poW po) (ha : 39 ≤ a) (hza : a + 3 ≤ z) {b n at_ : Nat} {f : Nat → Int32} {t : by_L} (hB : M b = .inl (1, n, .inl f)) (hb8 : 8 ≤ b) (hbz : b < z) (hn : n < 2 ^ 24) (ht : isA f at_ t) (hat : at_ + t.length ≤ n) (hW : txW t) {k0 : Nat} (hk0 : k0 < po.length) (K : clB (poL po k0) t = false → hz_W κ xX3_clashes 2 0 0 (hz_ex (some (.int (hz_b (clX po t)))) z M) 0 0 72 [(4, .int (nI k0)), (3, .int (nI (txI t))), (0, .ref a), (1, .ref b), (2, .int (nI at_))] [] z M) : ∀ k i, k = txI t - i → i ≤ txI t → (∀ j, j < i → dupF (lf (poL po k0)) (lf t) 0 (2 + 73 * j) (txI (poL po k0)) = false) → hz_W κ xX3_clashes 2 0 0 (hz_ex (some (.int (hz_b (clX po t)))) z M) 0 0 30 [(6, .int (nI i)), (5, .int (nI (offL (po.map Prod.fst) k0))), (4, .int (nI k0)), (3, .int (nI (txI t))), (0, .ref a), (1, .ref b), (2, .int (nI at_))] [] z M := by
  intro k
  induction k using Nat.strongRecOn with
  | ind k ih =>
  intro i hk hi hno
  obtain ⟨hO, hle, hoff, f1, g1, hf1, hg1, hX⟩ := id h
  rw [List.length_map] at hO hle
  obtain ⟨w1, w2, w3, w4, w5⟩ := txW_sz hW
  have hoa : 73 * txI t ≤ tx_oa (txI t) := by unfold tx_oa; split <;> omega
  obtain ⟨pw, pi⟩ := hpw.2 k0 hk0
  obtain ⟨p1, p2, p3, p4, p5⟩ := txW_sz pw
  have poa : 73 * txI (poL po k0) ≤ tx_oa (txI (poL po k0)) := by unfold tx_oa; split <;> omega
  have hPA : isA f1 (offL (po.map Prod.fst) k0) (poL po k0) := by have q := hX.2 k0 (by rw [List.length_map]; exact hk0); rw [rowL_po] at q; exact q
  have hom := poW_off hpw k0 (by omega)
  have plen := txW_len pw
  refine hz_iload (pc := 30) 0 (hz_dec kX3_clashes 17 rfl) rfl ?_
  refine hz_iloadn (pc := 32) 3 (hz_dec kX3_clashes 18 rfl) rfl ?_
  refine hz_n_ge (pc := 33) (tgt := 72) (hz_dec kX3_clashes 19 rfl) (by decide) (by omega) (by omega) (fun h1 => ?_) (fun h1 => ?_)
  · skip
    have e : i = txI t := by omega
    refine hz_pick (pc := 72) [2, 3, 4, 5, 6] rfl ?_
    refine K ?_
    cases e9 : clB (poL po k0) t with
    | false => rfl
    | true =>
      obtain ⟨j, hj, h2⟩ := List.any_eq_true.mp e9
      rw [hno j (by rw [e]; exact List.mem_range.mp hj)] at h2
      cases h2
  · skip
    refine hz_aloadn (pc := 36) 4 (hz_dec kX3_clashes 20 rfl) rfl ?_
    refine hz_get (pc := 37) (hz_dec kX3_clashes 21 rfl) fo_X3_220 hO (by omega) (by omega) rfl ?_
    refine hz_iload (pc := 40) 1 (hz_dec kX3_clashes 22 rfl) rfl ?_
    refine hz_aloadn (pc := 42) 4 (hz_dec kX3_clashes 23 rfl) rfl ?_
    refine hz_get (pc := 43) (hz_dec kX3_clashes 24 rfl) fo_X3_220 hO (by omega) (by omega) rfl ?_
    refine hz_iload (pc := 46) 1 (hz_dec kX3_clashes 25 rfl) rfl ?_
    refine hz_xS (pc := 48) (As := [.ref (a + 1), .int (nI (offL (po.map Prod.fst) k0))]) (st := [.int (nI (offL (po.map Prod.fst) k0)), .ref (a + 1)]) (hz_dec kX3_clashes 26 rfl) co_X3_111 sc_X0_one (c_one hf1 (by omega) (by omega) (by decide) (by omega)) rfl (by decide) ⟨Nat.le_refl _, Nat.le_refl _⟩ (Nat.le_of_ble_eq_true rfl) rfl ?_
    refine hz_eqi (pc := 51) (show _ = nI (txI (poL po k0)) by have q := hPA 0 (by omega); rw [Nat.add_zero] at q; rw [q]; rfl) ?_
    refine hz_aloadn (pc := 51) 5 (hz_dec kX3_clashes 27 rfl) rfl ?_
    refine hz_iloadn (pc := 52) 6 (hz_dec kX3_clashes 28 rfl) rfl ?_
    refine hz_iload (pc := 53) 0 (hz_dec kX3_clashes 29 rfl) rfl ?_
    refine hz_xS (pc := 55) (As := [.int (nI at_), .int (nI i)]) (st := [.ref b, .int (nI (txI (poL po k0))), .int (nI (offL (po.map Prod.fst) k0)), .ref (a + 1)]) (hz_dec kX3_clashes 30 rfl) co_X3_167 sc_X0_inputAt (c_inputAt) rfl (by decide) ⟨Nat.le_refl _, Nat.le_refl _⟩ (Nat.le_of_ble_eq_true rfl) rfl ?_
    refine hz_xS (pc := 58) (As := [.ref (a + 1), .int (nI (offL (po.map Prod.fst) k0)), .int (nI (txI (poL po k0))), .ref b, .int (nI (at_ + 2 + i * 73))]) (st := []) (hz_dec kX3_clashes 31 rfl) co_X3_174 sc_X3_hasInput (c_hasI hf1 (by omega) (by omega) (by decide) hB hb8 hbz (by omega) (by omega) (by omega)) rfl (by decide) ⟨Nat.le_refl _, Nat.le_refl _⟩ (Nat.le_of_ble_eq_true rfl) rfl ?_
    refine hz_eqi (pc := 61) (show _ = hz_b (dupF (lf (poL po k0)) (lf t) 0 (2 + 73 * i) (txI (poL po k0))) by rw [dupF_c (f2 := lf (poL po k0)) (g2 := lf t) (a2 := 0) (b2 := 2 + 73 * i) _ (fun j hj => by rw [hPA j (by omega), Nat.zero_add]) (fun j hj => by rw [show at_ + 2 + i * 73 + j = at_ + (2 + 73 * i + j) by omega, ht _ (by omega)])]) ?_
    refine hz_if_eq (pc := 61) (tgt := 66) (hz_dec kX3_clashes 32 rfl) (by decide) (fun h2 => ?_) (fun h2 => ?_)
    · skip
      refine hz_incN (pc := 66) (i := 6) (lo2 := [(6, .int (nI (i + 1))), (5, .int (nI (offL (po.map Prod.fst) k0))), (4, .int (nI k0)), (3, .int (nI (txI t))), (0, .ref a), (1, .ref b), (2, .int (nI at_))]) 0 (hz_dec kX3_clashes 35 rfl) rfl (by decide) rfl ?_
      refine hz_goto (pc := 69) (tgt := 30) (hz_dec kX3_clashes 36 rfl) (by decide) ?_
      refine hz_pick (pc := 30) [0, 1, 2, 3, 4, 5, 6] rfl ?_
      refine ih (txI t - (i + 1)) (by omega) (i + 1) rfl (by omega) (fun j hj => ?_)
      rcases (show j = i ∨ j < i by omega) with e | c
      · rw [e]; exact hz_b0 h2
      · exact hno j c
    · skip
      refine hz_iconst (pc := 64) (v := nI 1) (hz_dec kX3_clashes 33 rfl) (by decide) ?_
      exact hz_zret (pc := 65) (hz_dec kX3_clashes 34 rfl) rfl rfl ⟨by rw [clX_t hk0 (List.any_eq_true.mpr ⟨i, List.mem_range.mpr h1, hz_b1 h2⟩)]; rfl, rfl, rfl⟩
set_option maxHeartbeats 4000000 in
set_option maxRecDepth 100000 in
theorem c_cla_o {κ : hz_C} {z : Nat} {M : hz_M} {a : Nat} {po : List po_P} (h : rwR M a 5728 16 (po.map Prod.fst)) (hpw : poW po) (ha : 39 ≤ a) (hza : a + 3 ≤ z) {b n at_ : Nat} {f : Nat → Int32} {t : by_L} (hB : M b = .inl (1, n, .inl f)) (hb8 : 8 ≤ b) (hbz : b < z) (hn : n < 2 ^ 24) (ht : isA f at_ t) (hat : at_ + t.length ≤ n) (hW : txW t) : ∀ k k0, k = po.length - k0 → k0 ≤ po.length → (∀ j, j < k0 → clB (poL po j) t = false) → hz_W κ xX3_clashes 2 0 0 (hz_ex (some (.int (hz_b (clX po t)))) z M) 0 0 9 [(4, .int (nI k0)), (3, .int (nI (txI t))), (0, .ref a), (1, .ref b), (2, .int (nI at_))] [] z M := by
  intro k
  induction k using Nat.strongRecOn with
  | ind k ih =>
  intro k0 hk hk0 hno
  obtain ⟨hO, hle, hoff, f1, g1, hf1, hg1, hX⟩ := id h
  rw [List.length_map] at hO hle
  obtain ⟨w1, w2, w3, w4, w5⟩ := txW_sz hW
  have hoa : 73 * txI t ≤ tx_oa (txI t) := by unfold tx_oa; split <;> omega
  refine hz_iload (pc := 9) 0 (hz_dec kX3_clashes 6 rfl) rfl ?_
  refine hz_aloadn (pc := 11) 2 (hz_dec kX3_clashes 7 rfl) rfl ?_
  refine hz_get (pc := 12) (hz_dec kX3_clashes 8 rfl) fo_X3_212 hO (by omega) (by omega) rfl ?_
  refine hz_n_ge (pc := 15) (tgt := 78) (hz_dec kX3_clashes 9 rfl) (by decide) (by omega) (by omega) (fun h1 => ?_) (fun h1 => ?_)
  · skip
    have e : k0 = po.length := by omega
    refine hz_iconst (pc := 78) (v := nI 0) (hz_dec kX3_clashes 39 rfl) (by decide) ?_
    exact hz_zret (pc := 79) (hz_dec kX3_clashes 40 rfl) rfl rfl ⟨by rw [clX_f (fun j hj => hno j (by omega))]; rfl, rfl, rfl⟩
  · skip
    refine hz_aloadn (pc := 18) 2 (hz_dec kX3_clashes 10 rfl) rfl ?_
    refine hz_get (pc := 19) (hz_dec kX3_clashes 11 rfl) fo_X3_223 hO (by omega) (by omega) rfl ?_
    refine hz_iload (pc := 22) 0 (hz_dec kX3_clashes 12 rfl) rfl ?_
    refine hz_iald (pc := 24) (j := k0) (hz_dec kX3_clashes 13 rfl) hg1 (by omega) (by omega) rfl (by omega) (by omega) ?_
    refine hz_eqi (pc := 25) (hX.1 (k0) (by rw [List.length_map]; omega)) ?_
    refine hz_istore (pc := 25) (i := 5) (lo2 := [(5, .int (nI (offL (po.map Prod.fst) (k0)))), (4, .int (nI k0)), (3, .int (nI (txI t))), (0, .ref a), (1, .ref b), (2, .int (nI at_))]) (hz_dec kX3_clashes 14 rfl) (by decide) rfl ?_
    refine hz_iconst (pc := 27) (v := nI 0) (hz_dec kX3_clashes 15 rfl) (by decide) ?_
    refine hz_istore (pc := 28) (i := 6) (lo2 := [(6, .int (nI 0)), (5, .int (nI (offL (po.map Prod.fst) (k0)))), (4, .int (nI k0)), (3, .int (nI (txI t))), (0, .ref a), (1, .ref b), (2, .int (nI at_))]) (hz_dec kX3_clashes 16 rfl) (by decide) rfl ?_
    refine hz_pick (pc := 30) [0, 1, 2, 3, 4, 5, 6] rfl ?_
    refine c_cla_i h hpw ha hza hB hb8 hbz hn ht hat hW h1 (fun hc => ?_) (txI t) 0 rfl (by omega) (fun j hj => absurd hj (by omega))
    refine hz_incN (pc := 72) (i := 4) (lo2 := [(4, .int (nI (k0 + 1))), (3, .int (nI (txI t))), (0, .ref a), (1, .ref b), (2, .int (nI at_))]) 0 (hz_dec kX3_clashes 37 rfl) rfl (by decide) rfl ?_
    refine hz_goto (pc := 75) (tgt := 9) (hz_dec kX3_clashes 38 rfl) (by decide) ?_
    refine hz_pick (pc := 9) [0, 1, 2, 3, 4] rfl ?_
    refine ih (po.length - (k0 + 1)) (by omega) (k0 + 1) rfl (by omega) (fun j hj => ?_)
    rcases (show j = k0 ∨ j < k0 by omega) with e | c
    · rw [e]; exact hc
    · exact hno j c
set_option maxHeartbeats 4000000 in
set_option maxRecDepth 100000 in
theorem c_cla {κ : hz_C} {z : Nat} {M : hz_M} {a : Nat} {po : List po_P} (h : rwR M a 5728 16 (po.map Prod.fst)) (hpw : poW po) (ha : 39 ≤ a) (hza : a + 3 ≤ z) {b n at_ : Nat} {f : Nat → Int32} {t : by_L} (hB : M b = .inl (1, n, .inl f)) (hb8 : 8 ≤ b) (hbz : b < z) (hn : n < 2 ^ 24) (ht : isA f at_ t) (hat : at_ + t.length ≤ n) (hW : txW t) : hz_Mt κ xX3_clashes 2 0 0 [.ref a, .ref b, .int (nI at_)] z M (hz_ex (some (.int (hz_b (clX po t)))) z M) := by
  refine hz_ent (lo := [(0, .ref a), (1, .ref b), (2, .int (nI at_))]) (by decide) (Nat.le_of_ble_eq_true rfl) rfl ?_
  obtain ⟨hO, hle, hoff, f1, g1, hf1, hg1, hX⟩ := id h
  rw [List.length_map] at hO hle
  obtain ⟨w1, w2, w3, w4, w5⟩ := txW_sz hW
  have hoa : 73 * txI t ≤ tx_oa (txI t) := by unfold tx_oa; split <;> omega
  refine hz_aloadn (pc := 0) 1 (hz_dec kX3_clashes 0 rfl) rfl ?_
  refine hz_iloadn (pc := 1) 2 (hz_dec kX3_clashes 1 rfl) rfl ?_
  refine hz_xS (pc := 2) (As := [.ref b, .int (nI at_)]) (st := []) (hz_dec kX3_clashes 2 rfl) co_X3_111 sc_X0_one (c_one hB hb8 hbz (by omega) (by omega)) rfl (by decide) ⟨Nat.le_refl _, Nat.le_refl _⟩ (Nat.le_of_ble_eq_true rfl) rfl ?_
  refine hz_eqi (pc := 5) (show _ = nI (txI t) by rw [show at_ = at_ + 0 from rfl, ht 0 (by omega)]; rfl) ?_
  refine hz_istoren (pc := 5) (i := 3) (lo2 := [(3, .int (nI (txI t))), (0, .ref a), (1, .ref b), (2, .int (nI at_))]) (hz_dec kX3_clashes 3 rfl) rfl (by decide) rfl ?_
  refine hz_iconst (pc := 6) (v := nI 0) (hz_dec kX3_clashes 4 rfl) (by decide) ?_
  refine hz_istore (pc := 7) (i := 4) (lo2 := [(4, .int (nI 0)), (3, .int (nI (txI t))), (0, .ref a), (1, .ref b), (2, .int (nI at_))]) (hz_dec kX3_clashes 5 rfl) (by decide) rfl ?_
  refine hz_pick (pc := 9) [0, 1, 2, 3, 4] rfl ?_
  exact c_cla_o h hpw ha hza hB hb8 hbz hn ht hat hW po.length 0 rfl (by omega) (fun j hj => absurd hj (by omega))
