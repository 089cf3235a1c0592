/-! the FIRST block -/
def fi1 : by_L := asT [] 1000 537919487 0 0 4096 (ky_a 0) []
def fi2 : by_L := rpS fi1
theorem fi1_len : fi1.length = 103 := asT_len _ _ _ _ _ _ _ _
theorem fi2_len : fi2.length = 103 := (rpS_len _).trans fi1_len
theorem fi1_W : blW fi1 := asT_W (po := []) (hh := []) (tm := 1000) (bits := 537919487) (ht := 0) (am := 4096) (ad := ky_a 0) poW_nil (by decide) (by decide)
theorem fi1_h {j : Nat} (hj : j < 103) : lf fi1 j = asH [] 1000 537919487 0 0 4096 (ky_a 0) j := asT_h hj
theorem fi1_n : bkN fi1 = 1 := by
  rw [fi1_W.f.2.2.1, fi1_h (by decide)]
  show bb (bI (nI (0 + 1))) = 1
  unfold bI
  rw [bb_i8, bb_i8, bb_nI (by decide)]
theorem fi1_s : bkS fi1 1 = 103 := by
  have q := fi1_W.f.2.2.2.2.2.2
  rw [fi1_n, fi1_len] at q
  exact q
theorem fi1_t : bkT fi1 0 = subL fi1 81 22 := by
  unfold bkT
  rw [show bkS fi1 (0 + 1) = 103 from fi1_s]
  rfl
theorem n_ok.at {l : List Nat} {f : Nat → Int32} (h : n_ok l f) : ∀ j, j < 8 → f j = nI (l.getD j 0) ∧ l.getD j 0 < 4294967296 := by
  obtain ⟨v0, v1, v2, v3, v4, v5, v6, v7, rfl, hb, hv⟩ := h
  intro j hj
  match j, hj with
  | 0, _ => exact ⟨hv.1, hb.1⟩
  | 1, _ => exact ⟨hv.2.1, hb.2.1⟩
  | 2, _ => exact ⟨hv.2.2.1, hb.2.2.1⟩
  | 3, _ => exact ⟨hv.2.2.2.1, hb.2.2.2.1⟩
  | 4, _ => exact ⟨hv.2.2.2.2.1, hb.2.2.2.2.1⟩
  | 5, _ => exact ⟨hv.2.2.2.2.2.1, hb.2.2.2.2.2.1⟩
  | 6, _ => exact ⟨hv.2.2.2.2.2.2.1, hb.2.2.2.2.2.2.1⟩
  | 7, _ => exact ⟨hv.2.2.2.2.2.2.2, hb.2.2.2.2.2.2.2⟩
  | n + 8, h => exact absurd h (by omega)
def m_dg (l : List Nat) (i : Nat) : Nat := Nat.mod (Nat.div (l.getD (Nat.div i 4) 0) (Nat.pow 2 (Nat.sub 24 (Nat.mul 8 (Nat.mod i 4))))) 256
theorem dg_m {l : List Nat} {f : Nat → Int32} (h : n_ok l f) {i : Nat} (hi : i < 32) : bb (sh_dg f i) = m_dg l i := by
  have q := h.at (i / 4) (by omega)
  rw [bb_dg, q.1, un_nI q.2]
  rfl
theorem sh2_ok {l : List Nat} {f : Nat → Int32} (h : n_ok l f) : n_ok (n_h (m_dg l) 32) (sh_2 f) := n_h_ok (fun i hi => by
  rw [Nat.zero_add, dg_m h hi]
  show m_dg l i = m_dg l i % 256
  exact (Nat.mod_mod _ _).symm) (by decide)
def m_l (l : List Nat) (i : Nat) : Nat := l.getD i 0
theorem shS_ok {l : by_L} {b : List Nat} (hl : l.length < 1000000) (h : ∀ i, i < l.length → bb (lf l i) = m_l b i % 256) : n_ok (n_h (m_l b) l.length) (shS l) := n_h_ok (fun i hi => by rw [Nat.zero_add]; exact h i hi) hl
def fi_t : List Nat := [0, 1, 0, 0, 0, 0, 0, 0, 0, 0, 0, 0, 16, 0, 92, 63, 75, 0, 149, 82, 234, 131]
def fi_1 : List Nat := [167798480, 551064863, 549342566, 3038509998, 3930371058, 1695150243, 1335076181, 1428251029]
def fi_2 : List Nat := [2161226270, 1972401021, 663622587, 1405983594, 894285643, 2654530304, 2388893758, 4289885313]
def fi_b : List Nat := [0, 0, 0, 0, 0, 0, 0, 0, 0, 0, 0, 0, 0, 0, 0, 0, 0, 0, 0, 0, 0, 0, 0, 0, 0, 0, 0, 0, 0, 0, 0, 0, 128, 209, 178, 30, 117, 144, 115, 125, 39, 142, 19, 187, 83, 205, 155, 106, 53, 77, 183, 75, 158, 56, 235, 0, 142, 99, 160, 62, 255, 178, 116, 129, 0, 0, 3, 232, 32, 15, 255, 255, 0, 0, 0, 0, 0, 0, 0, 42]
def fi_3 : List Nat := [1161342657, 1768216798, 4097135077, 146315344, 3115825667, 1039946802, 1860421998, 4005162553]
def fi_4 : List Nat := [131072183, 1855376717, 3173004521, 3272456012, 4129107353, 2127821581, 569819071, 2890684588]
theorem fi_e1 : n_h (m_l fi_t) 22 = fi_1 := by decide +kernel
theorem fi_e2 : n_h (m_dg fi_1) 32 = fi_2 := by decide +kernel
theorem fi_e3 : n_h (m_l fi_b) 80 = fi_3 := by decide +kernel
theorem fi_e4 : n_h (m_dg fi_3) 32 = fi_4 := by decide +kernel
/-- its bytes but the root's and the nonce's -/
def fi_H (j : Nat) : Nat := ([0, 0, 0, 0, 0, 0, 0, 0, 0, 0, 0, 0, 0, 0, 0, 0, 0, 0, 0, 0, 0, 0, 0, 0, 0, 0, 0, 0, 0, 0, 0, 0, 0, 0, 0, 0, 0, 0, 0, 0, 0, 0, 0, 0, 0, 0, 0, 0, 0, 0, 0, 0, 0, 0, 0, 0, 0, 0, 0, 0, 0, 0, 0, 0, 0, 0, 3, 232, 32, 15, 255, 255, 0, 0, 0, 0, 0, 0, 0, 0, 1, 0, 1, 0, 0, 0, 0, 0, 0, 0, 0, 0, 0, 16, 0, 92, 63, 75, 0, 149, 82, 234, 131] : List Nat).getD j 0
theorem fi1_b : ∀ j, j < 103 → bb (lf fi1 j) = fi_H j := by
  intro j hj
  rw [fi1_h hj, ky_a0]
  exact (show ∀ j, j < 103 → bb (asH [] 1000 537919487 0 0 4096 (lN 6647114040899463811) j) = fi_H j by decide +kernel) j hj
theorem fi_ok2 : n_ok fi_2 (sh_2 (shS (subL fi1 81 22))) := by
  have q := shS_ok (l := subL fi1 81 22) (b := fi_t) (by rw [subL_len]; decide) (fun i hi => by
    rw [subL_len] at hi
    rw [lf_subL hi, fi1_b _ (by omega)]
    exact (show ∀ i, i < 22 → fi_H (81 + i) = m_l fi_t i % 256 by decide) i hi)
  rw [subL_len, fi_e1] at q
  have q2 := sh2_ok q
  rw [fi_e2] at q2
  exact q2
theorem fi_rt : rtS fi1 = dgS (sh_2 (shS (subL fi1 81 22))) := by
  unfold rtS
  rw [fi1_n]
  show hhS (bkT fi1 0) = _
  rw [fi1_t]
  rfl
theorem fi2_r {j : Nat} (h1 : 32 ≤ j) (h2 : j < 64) : bb (lf fi2 j) = m_dg fi_2 (j - 32) := by
  have e : lf fi2 j = lf (rtS fi1) (j - 32) := by
    unfold fi2 rpS
    rw [lf_cutL (by rw [fi1_len]; omega), Nat.zero_add]
    exact if_pos ⟨h1, h2⟩
  rw [e, fi_rt]
  unfold dgS
  rw [lf_cutL (by omega), Nat.zero_add]
  exact dg_m fi_ok2 (by omega)
theorem fi2_o {j : Nat} (hj : j < 103) (h : ¬ (32 ≤ j ∧ j < 64)) : lf fi2 j = lf fi1 j := by
  unfold fi2 rpS
  rw [lf_cutL (by rw [fi1_len]; omega), Nat.zero_add]
  exact if_neg h
theorem nz_in {T : by_L} {x : Int64} {j : Nat} (hj : j < T.length) (h : 72 ≤ j ∧ j < 80) : lf (nzT T x) j = sb_b (byl x (j - 72)) := by
  unfold nzT
  rw [lf_cutL hj, Nat.zero_add]
  exact if_pos h
theorem nz_out {T : by_L} {x : Int64} {j : Nat} (hj : j < T.length) (h : ¬ (72 ≤ j ∧ j < 80)) : lf (nzT T x) j = lf T j := by
  unfold nzT
  rw [lf_cutL hj, Nat.zero_add]
  exact if_neg h
theorem fi_hd {i : Nat} (hi : i < 80) : bb (lf (hdS (nzT fi2 (lN 42))) i) = m_l fi_b i % 256 := by
  unfold hdS
  rw [lf_subL hi, Nat.zero_add]
  by_cases c : 72 ≤ i ∧ i < 80
  · rw [nz_in (by rw [fi2_len]; omega) c, bb_sb (byl_lt _ _), byl_m (by decide)]
    exact (show ∀ i, i < 80 → 72 ≤ i → m_byl 42 (i - 72) = m_l fi_b i % 256 by decide) i hi c.1
  · rw [nz_out (by rw [fi2_len]; omega) c]
    by_cases d : 32 ≤ i ∧ i < 64
    · rw [fi2_r d.1 d.2]
      exact (show ∀ i, i < 64 → 32 ≤ i → m_dg fi_2 (i - 32) = m_l fi_b i % 256 by decide) i d.2 d.1
    · rw [fi2_o (by omega) d, fi1_b i (by omega)]
      exact (show ∀ i, i < 80 → ¬ (72 ≤ i ∧ i < 80) → ¬ (32 ≤ i ∧ i < 64) → fi_H i = m_l fi_b i % 256 by decide) i hi c d
theorem bg_8 {f : Nat → Int32} {l : List Nat} (h : n_ok l f) : bg f 0 8 = ((((((l.getD 0 0 * 4294967296 + l.getD 1 0) * 4294967296 + l.getD 2 0) * 4294967296 + l.getD 3 0) * 4294967296 + l.getD 4 0) * 4294967296 + l.getD 5 0) * 4294967296 + l.getD 6 0) * 4294967296 + l.getD 7 0 := by
  have q := h.at
  have z : bg f 0 8 = (((((((0 * 4294967296 + un (f (0 + 0))) * 4294967296 + un (f (0 + 1))) * 4294967296 + un (f (0 + 2))) * 4294967296 + un (f (0 + 3))) * 4294967296 + un (f (0 + 4))) * 4294967296 + un (f (0 + 5))) * 4294967296 + un (f (0 + 6))) * 4294967296 + un (f (0 + 7)) := rfl
  rw [z, show un (f (0 + 0)) = l.getD 0 0 by rw [Nat.zero_add, (q 0 (by decide)).1, un_nI (q 0 (by decide)).2], show un (f (0 + 1)) = l.getD 1 0 by rw [Nat.zero_add, (q 1 (by decide)).1, un_nI (q 1 (by decide)).2], show un (f (0 + 2)) = l.getD 2 0 by rw [Nat.zero_add, (q 2 (by decide)).1, un_nI (q 2 (by decide)).2], show un (f (0 + 3)) = l.getD 3 0 by rw [Nat.zero_add, (q 3 (by decide)).1, un_nI (q 3 (by decide)).2], show un (f (0 + 4)) = l.getD 4 0 by rw [Nat.zero_add, (q 4 (by decide)).1, un_nI (q 4 (by decide)).2], show un (f (0 + 5)) = l.getD 5 0 by rw [Nat.zero_add, (q 5 (by decide)).1, un_nI (q 5 (by decide)).2], show un (f (0 + 6)) = l.getD 6 0 by rw [Nat.zero_add, (q 6 (by decide)).1, un_nI (q 6 (by decide)).2], show un (f (0 + 7)) = l.getD 7 0 by rw [Nat.zero_add, (q 7 (by decide)).1, un_nI (q 7 (by decide)).2], Nat.zero_mul, Nat.zero_add]
theorem fi_met : slW fi2 (lN 42) (tgT 537919487) = true := by
  have hl : (hdS (nzT fi2 (lN 42))).length = 80 := subL_len _ _ _
  have q := shS_ok (l := hdS (nzT fi2 (lN 42))) (b := fi_b) (by rw [hl]; decide) (fun i hi => fi_hd (by rw [hl] at hi; exact hi))
  rw [hl, fi_e3] at q
  have q2 := sh2_ok q
  rw [fi_e4] at q2
  unfold slW
  rw [bg_8 q2]
  decide +kernel
/-- the bytes of a block's head, but TIME's first and the count, don't say how it is cut -/
theorem bk_80 {T1 T : by_L} (hl : T1.length = T.length) (h : ∀ j, j < T.length → j = 64 ∨ 80 ≤ j → lf T1 j = lf T j) : bkN T1 = bkN T ∧ (∀ k, bkS T1 k = bkS T k) := by
  have tl : ∀ a, 81 ≤ a → tx_len (lf T1) a T.length = tx_len (lf T) a T.length := by
    intro a ha
    rcases Nat.lt_or_ge T.length (a + 2) with c | c
    · rw [tx_0 c, tx_0 c]
    · have q := tx_len_c (f := lf T1) (g := lf T) (a := a) (b := a) (n := T.length - a) (fun i hi => h (a + i) (by omega) (by omega))
      rw [show a + (T.length - a) = T.length by omega] at q
      exact q
  have st : ∀ k, bk_st (lf T1) T.length k = bk_st (lf T) T.length k ∧ bk_ok (lf T1) T.length k = bk_ok (lf T) T.length k ∧ 81 ≤ bk_st (lf T) T.length k := by
    intro k
    induction k with
    | zero => exact ⟨rfl, rfl, Nat.le_refl _⟩
    | succ k ih =>
      obtain ⟨i1, i2, i3⟩ := ih
      simp only [bk_st, bk_ok]
      rw [i1, i2, tl _ i3]
      exact ⟨rfl, rfl, by omega⟩
  refine ⟨?_, fun k => by unfold bkS; rw [hl]; exact (st k).1⟩
  unfold bkN bk_n
  rw [hl]
  by_cases c : T.length < 81
  · rw [if_pos c, if_pos c]
  · rw [if_neg c, if_neg c, h 64 (by omega) (by omega), h 80 (by omega) (by omega), (st _).1, (st _).2.1]
theorem cutL_81 {f g : Nat → Int32} (h : ∀ j, 81 ≤ j → j < 103 → f j = g j) : cutL f 81 (103 - 81) = cutL g 81 (103 - 81) := by
  unfold cutL
  refine List.map_congr_left (fun j hj => ?_)
  have hj2 := List.mem_range.mp hj
  exact h _ (by omega) (by omega)
/-- the FIRST block with a nonce -/
def fiX (x : Int64) : by_L := nzT fi2 x
theorem fiX_len (x : Int64) : (fiX x).length = 103 := (nzT_len _ _).trans fi2_len
theorem fiX_o {x : Int64} {j : Nat} (hj : j < 103) (h : ¬ (32 ≤ j ∧ j < 64)) (h2 : ¬ (72 ≤ j ∧ j < 80)) : lf (fiX x) j = lf fi1 j := (nz_out (by rw [fi2_len]; omega) h2).trans (fi2_o hj h)
theorem fiX_k (x : Int64) : bkN (fiX x) = 1 ∧ (∀ k, bkS (fiX x) k = bkS fi1 k) := by
  have q := bk_80 (T1 := fiX x) (T := fi1) ((fiX_len x).trans fi1_len.symm) (fun j hj hh => fiX_o (by rw [fi1_len] at hj; exact hj) (by omega) (by omega))
  exact ⟨q.1.trans fi1_n, q.2⟩
theorem fiX_W (x : Int64) : blW (fiX x) := by
  unfold blW
  rw [(fiX_k x).1]
  decide
theorem fiX_t (x : Int64) : bkT (fiX x) 0 = bkT fi1 0 := by
  unfold bkT
  rw [(fiX_k x).2, (fiX_k x).2, show bkS fi1 (0 + 1) = 103 from fi1_s, show bkS fi1 0 = 81 from rfl]
  exact cutL_81 (fun j h1 h2 => fiX_o (by omega) (by omega) (by omega))
theorem fiX_i (x : Int64) : bn_int (lf (fiX x)) 64 = 1000 ∧ bn_int (lf (fiX x)) 68 = 537919487 := by
  have b : ∀ j, 64 ≤ j → j < 72 → bb (lf (fiX x) j) = fi_H j := fun j h1 h2 => by rw [fiX_o (by omega) (by omega) (by omega)]; exact fi1_b j (by omega)
  unfold bn_int
  simp only [bn_nat]
  rw [b (64 + 0) (by decide) (by decide), b (64 + 1) (by decide) (by decide), b (64 + 2) (by decide) (by decide), b (64 + 3) (by decide) (by decide), b (68 + 0) (by decide) (by decide), b (68 + 1) (by decide) (by decide), b (68 + 2) (by decide) (by decide), b (68 + 3) (by decide) (by decide)]
  exact ⟨by decide, by decide⟩
theorem fiX_r (x : Int64) : rwS (fiX x) = true := by
  have t0 : txI (bkT (fiX x) 0) = 0 := by
    rw [fiX_t, fi1_t]
    unfold txI
    rw [lf_subL (by decide), fi1_b _ (by decide)]
    rfl
  unfold rwS
  rw [(fiX_k x).1]
  have e : rwB (fiX x) 0 = false := by
    unfold rwB
    rw [t0]
    decide
  apply decide_eq_true
  show (if fsI (rwB (fiX x)) 0 < 0 then fsI (rwB (fiX x)) 0 else if rwB (fiX x) 0 then 0 else 0 + 1) = 1
  rw [e]
  rfl
theorem fi_wk : tgR 537919487 = true ∧ 0 + wkN 537919487 ≤ (0 + 1) * 2 ^ 233 ∧ 0 + wkN 537919487 < 4294967296 ^ 8 ∧ 3 ≤ tgE 537919487 ∧ tgE 537919487 ≤ 32 := by decide +kernel
theorem fi_I (x : Int64) : blI [fiB (fiX x)] 0 := by
  have e0 : ∀ k, k < [fiB (fiX x)].length → k = 0 := fun k hk => by have q : k < 1 := hk; omega
  have by0 : bBy [fiB (fiX x)] 0 = fiX x := rfl
  refine ⟨Nat.one_pos, fiX_len x, ?_, Nat.zero_le _, fun k hk => ?_, fun k hk => ?_, fun i j hi hj _ => ?_, fun k hk => ?_, fun k hk => ?_⟩
  · show 0 + 109 = (0 + (fiX x).length) + 6 * 1
    rw [fiX_len]
  · have hk0 : k = 0 := by have q : k < 1 := hk; omega
    subst hk0
    refine ⟨fun p hp => (by cases hp), fun _ => ⟨rfl, rfl⟩, ?_, ?_⟩
    · show ¬ bn_int (lf (fiX x)) 64 < 0
      rw [(fiX_i x).1]; decide
    · show tgR (bn_int (lf (fiX x)) 68) = true
      rw [(fiX_i x).2]; exact fi_wk.1
  · rw [e0 k hk]; exact fiX_W x
  · rw [e0 i hi, e0 j hj]
  · rw [e0 k hk]; exact fiX_r x
  · rw [e0 k hk]
    show 0 + wkN (bn_int (lf (fiX x)) 68) ≤ (0 + 1) * 2 ^ 233
    rw [(fiX_i x).2]; exact fi_wk.2.1
