/-! Node: the lost ones; the seal; the root put -/
/-- the lost blocks and their hashes -/
def loR (M : hz_M) (nb : Nat) (lo : List by_L) : Prop := rwR M (nb + 15) 23560 8 lo ∧ rwR M (nb + 18) 256 8 (lo.map haS) ∧ ∃ g : Nat → Int32, M (nb + 14) = .inl (0, 7, .inl g)
def loW (lo : List by_L) : Prop := lo.length ≤ 8 ∧ ∀ k, k < lo.length → blW (rowL lo k)
theorem rowL_ha (lo : List by_L) {k : Nat} (h : k < lo.length) : rowL (lo.map haS) k = haS (rowL lo k) := by
  unfold rowL
  rw [List.getD_eq_getElem?_getD, List.getElem?_map, List.getD_eq_getElem?_getD, List.getElem?_eq_getElem h]
  rfl
theorem off_ha (lo : List by_L) : ∀ k, k ≤ lo.length → offL (lo.map haS) k = 32 * k := by
  intro k
  induction k with
  | zero => intro _; rfl
  | succ k ih =>
    intro hk
    simp only [offL]
    rw [ih (by omega), rowL_ha lo (by omega), haS_len]
    omega
theorem off_lo {lo : List by_L} (h : loW lo) : ∀ k, k ≤ lo.length → offL lo k ≤ 2945 * k := by
  intro k
  induction k with
  | zero => intro _; exact Nat.le_refl _
  | succ k ih =>
    intro hk
    have q := (h.2 k (by omega)).len
    have r := ih (by omega)
    simp only [offL]
    omega
theorem loR.fr {M M2 : hz_M} {nb : Nat} {lo : List by_L} (h : loR M nb lo) (e : ∀ q, nb + 14 ≤ q → q < nb + 21 → M2 q = M q) : loR M2 nb lo := ⟨h.1.fr (fun q q1 q2 => e q (by omega) (by omega)), h.2.1.fr (fun q q1 q2 => e q (by omega) (by omega)), h.2.2.imp (fun g q => (e (nb + 14) (by omega) (by omega)).trans q)⟩
def isLo (lo : List by_L) (s : by_L) : Bool := decide (fsI (fun k => smS (haS (rowL lo k)) s) lo.length < lo.length)
set_option maxHeartbeats 4000000 in
set_option maxRecDepth 100000 in
theorem c_isLo_l {κ : hz_C} {z : Nat} {M : hz_M} {nb : Nat} {nu up nx fu rc rf : Int32} (hN : M nb = ndO nb nu up nx fu rc rf) (hnb8 : 63 ≤ nb) (hnbz : nb + 34 ≤ z) {lo : List by_L} (hL : loR M nb lo) (hlw : loW lo) {b n : Nat} {f : Nat → Int32} {s : by_L} (hB : M b = .inl (1, n, .inl f)) (hb8 : 8 ≤ b) (hbz : b < z) (hn : n < 2 ^ 24) (hs : isA f 0 s) (hs32 : s.length = 32) (hn32 : 32 ≤ n) : ∀ k i, k = lo.length - i → i ≤ lo.length → (∀ j, j < i → smS (haS (rowL lo j)) s = false) → hz_W κ xX6_isLost 1 0 0 (hz_ex (some (.int (hz_b (isLo lo s)))) z M) 0 0 2 [(2, .int (nI i)), (0, .ref nb), (1, .ref b)] [] z M := by
  intro k
  induction k using Nat.strongRecOn with
  | ind k ih =>
  intro i hk hi hno
  obtain ⟨hrA, hrB, hCh⟩ := id hL
  obtain ⟨hOa, hlea, hoffa, fa1, ga1, hfa1, hga1, hXa⟩ := id hrA
  obtain ⟨hOb, hleb, hoffb, fb1, gb1, hfb1, hgb1, hXb⟩ := id hrB
  rw [List.length_map] at hOb hleb
  have hl8 := hlw.1
  refine hz_iloadn (pc := 2) 0 (hz_dec kX6_isLost 2 rfl) rfl ?_
  refine hz_aloadn (pc := 3) 1 (hz_dec kX6_isLost 3 rfl) rfl ?_
  refine hz_get (pc := 4) (hz_dec kX6_isLost 4 rfl) fo_X6_50 hN (by omega) (by omega) rfl ?_
  refine hz_get (pc := 7) (hz_dec kX6_isLost 5 rfl) fo_X6_88 hOb (by omega) (by omega) rfl ?_
  refine hz_n_ge (pc := 10) (tgt := 47) (hz_dec kX6_isLost 6 rfl) (by decide) (by omega) (by omega) (fun h1 => ?_) (fun h1 => ?_)
  · skip
    have e : i = lo.length := by omega
    refine hz_iconst (pc := 47) (v := nI 0) (hz_dec kX6_isLost 24 rfl) (by decide) ?_
    refine hz_zret (pc := 48) (hz_dec kX6_isLost 25 rfl) rfl rfl ⟨?_, rfl, rfl⟩
    unfold isLo
    rw [fsI_no (p := fun k => smS (haS (rowL lo k)) s) _ (fun j hj => hno j (by omega)), decide_eq_false (by omega)]
    rfl
  · skip
    have hPA : isA fb1 (32 * i) (haS (rowL lo i)) := by have q := hXb.2 i (by rw [List.length_map]; exact h1); rw [rowL_ha lo h1, off_ha lo i (by omega)] at q; exact q
    refine hz_aloadn (pc := 13) 1 (hz_dec kX6_isLost 7 rfl) rfl ?_
    refine hz_get (pc := 14) (hz_dec kX6_isLost 8 rfl) fo_X6_50 hN (by omega) (by omega) rfl ?_
    refine hz_get (pc := 17) (hz_dec kX6_isLost 9 rfl) fo_X6_91 hOb (by omega) (by omega) rfl ?_
    refine hz_aloadn (pc := 20) 1 (hz_dec kX6_isLost 10 rfl) rfl ?_
    refine hz_get (pc := 21) (hz_dec kX6_isLost 11 rfl) fo_X6_50 hN (by omega) (by omega) rfl ?_
    refine hz_get (pc := 24) (hz_dec kX6_isLost 12 rfl) fo_X6_94 hOb (by omega) (by omega) rfl ?_
    refine hz_iloadn (pc := 27) 0 (hz_dec kX6_isLost 13 rfl) rfl ?_
    refine hz_iald (pc := 28) (j := i) (hz_dec kX6_isLost 14 rfl) hgb1 (by omega) (by omega) rfl (by omega) (by decide) ?_
    refine hz_eqi (pc := 29) (show _ = nI (32 * i) by rw [hXb.1 (i) (by rw [List.length_map]; omega), off_ha lo i (by omega)]) ?_
    refine hz_aloadn (pc := 29) 2 (hz_dec kX6_isLost 15 rfl) rfl ?_
    refine hz_iconst (pc := 30) (v := nI 0) (hz_dec kX6_isLost 16 rfl) (by decide) ?_
    refine hz_bipush (pc := 31) (v := nI 32) (hz_dec kX6_isLost 17 rfl) (by decide) ?_
    refine hz_xS (pc := 33) (As := [.ref (nb + 18 + 1), .int (nI (32 * i)), .ref b, .int (nI 0), .int (nI 32)]) (st := []) (hz_dec kX6_isLost 18 rfl) co_X6_97 sc_X0_same (c_same hfb1 (by omega) (by omega) (by decide) hB hb8 hbz (by omega) (by omega) (by omega)) rfl (by decide) ⟨Nat.le_refl _, Nat.le_refl _⟩ (Nat.le_of_ble_eq_true rfl) rfl ?_
    refine hz_eqi (pc := 36) (show _ = hz_b (smS (haS (rowL lo i)) s) by rw [smB_sm, smS_of hPA hs (haS_len _) hs32]) ?_
    refine hz_if_eq (pc := 36) (tgt := 41) (hz_dec kX6_isLost 19 rfl) (by decide) (fun h2 => ?_) (fun h2 => ?_)
    · skip
      refine hz_incN (pc := 41) (i := 2) (lo2 := [(2, .int (nI (i + 1))), (0, .ref nb), (1, .ref b)]) 0 (hz_dec kX6_isLost 22 rfl) rfl (by decide) rfl ?_
      refine hz_goto (pc := 44) (tgt := 2) (hz_dec kX6_isLost 23 rfl) (by decide) ?_
      refine hz_pick (pc := 2) [0, 1, 2] rfl ?_
      refine ih (lo.length - (i + 1)) (by omega) (i + 1) rfl (by omega) (fun j hj => ?_)
      rcases (show j = i ∨ j < i by omega) with e | c
      · rw [e]; exact hz_b0 h2
      · exact hno j c
    · skip
      refine hz_iconst (pc := 39) (v := nI 1) (hz_dec kX6_isLost 20 rfl) (by decide) ?_
      refine hz_zret (pc := 40) (hz_dec kX6_isLost 21 rfl) rfl rfl ⟨?_, rfl, rfl⟩
      unfold isLo
      rw [fsI_at (i := i) (p := fun k => smS (haS (rowL lo k)) s) (hz_b1 h2) hno _ h1, decide_eq_true h1]
      rfl
set_option maxHeartbeats 4000000 in
set_option maxRecDepth 100000 in
theorem c_isLo {κ : hz_C} {z : Nat} {M : hz_M} {nb : Nat} {nu up nx fu rc rf : Int32} (hN : M nb = ndO nb nu up nx fu rc rf) (hnb8 : 63 ≤ nb) (hnbz : nb + 34 ≤ z) {lo : List by_L} (hL : loR M nb lo) (hlw : loW lo) {b n : Nat} {f : Nat → Int32} {s : by_L} (hB : M b = .inl (1, n, .inl f)) (hb8 : 8 ≤ b) (hbz : b < z) (hn : n < 2 ^ 24) (hs : isA f 0 s) (hs32 : s.length = 32) (hn32 : 32 ≤ n) : hz_Mt κ xX6_isLost 1 0 0 [.ref nb, .ref b] z M (hz_ex (some (.int (hz_b (isLo lo s)))) z M) := by
  refine hz_ent (lo := [(0, .ref nb), (1, .ref b)]) (by decide) (Nat.le_of_ble_eq_true rfl) rfl ?_
  refine hz_iconst (pc := 0) (v := nI 0) (hz_dec kX6_isLost 0 rfl) (by decide) ?_
  refine hz_istoren (pc := 1) (i := 2) (lo2 := [(2, .int (nI 0)), (0, .ref nb), (1, .ref b)]) (hz_dec kX6_isLost 1 rfl) rfl (by decide) rfl ?_
  refine hz_pick (pc := 2) [0, 1, 2] rfl ?_
  exact c_isLo_l hN hnb8 hnbz hL hlw hB hb8 hbz hn hs hs32 hn32 lo.length 0 rfl (by omega) (fun j hj => absurd hj (by omega))
set_option maxHeartbeats 4000000 in
set_option maxRecDepth 100000 in
theorem c_rmLo {κ : hz_C} {z : Nat} {M : hz_M} {nb : Nat} {nu up nx fu rc rf : Int32} (hN : M nb = ndO nb nu up nx fu rc rf) (hnb8 : 63 ≤ nb) (hnbz : nb + 34 ≤ z) {lo : List by_L} (hL : loR M nb lo) (hlw : loW lo) {k0 : Nat} (hk0 : k0 < lo.length) : hz_Mt κ xX6_removeLost 2 0 0 [.ref nb, .int (nI k0)] z M (fun r z2 M2 => none = r ∧ z = z2 ∧ frS [(nb + 15, nb + 21)] M M2 ∧ loR M2 nb (lo.eraseIdx k0)) := by
  refine hz_ent (lo := [(0, .ref nb), (1, .int (nI k0))]) (by decide) (Nat.le_of_ble_eq_true rfl) rfl ?_
  obtain ⟨hrA, hrB, hCh⟩ := id hL
  obtain ⟨hOa, hlea, hoffa, fa1, ga1, hfa1, hga1, hXa⟩ := id hrA
  obtain ⟨hOb, hleb, hoffb, fb1, gb1, hfb1, hgb1, hXb⟩ := id hrB
  rw [List.length_map] at hOb hleb
  have hl8 := hlw.1
  refine hz_aloadn (pc := 0) 0 (hz_dec kX6_removeLost 0 rfl) rfl ?_
  refine hz_get (pc := 1) (hz_dec kX6_removeLost 1 rfl) fo_X6_47 hN (by omega) (by omega) rfl ?_
  refine hz_iloadn (pc := 4) 1 (hz_dec kX6_removeLost 2 rfl) rfl ?_
  refine hz_callV (pc := 5) (a := nb + 15) (As := [.int (nI k0)]) (st := []) (hz_dec kX6_removeLost 3 rfl) co_X6_105 im_X7_remove se_X7_remove rfl hOa (by omega) (by omega) (c_rwRem hrA (by omega) (by omega) (by decide) (by decide) hk0) rfl (by decide) ⟨Nat.le_refl _, Nat.le_refl _⟩ (Nat.le_of_ble_eq_true rfl) rfl (fun r9 z9 M1 hp9 => ?_)
  obtain ⟨rfl, rfl, hf1, hr1⟩ := hp9
  have hrB1 : rwR M1 (nb + 18) 256 8 (lo.map haS) := hrB.fr (fun q q1 q2 => hf1.at1 (by omega))
  have hN1 := (hf1.at1 (q := nb) (by omega)).trans hN
  obtain ⟨hOb1, -⟩ := id hrB1
  rw [List.length_map] at hOb1
  refine hz_aloadn (pc := 8) 0 (hz_dec kX6_removeLost 4 rfl) rfl ?_
  refine hz_get (pc := 9) (hz_dec kX6_removeLost 5 rfl) fo_X6_50 hN1 (by omega) (by omega) rfl ?_
  refine hz_iloadn (pc := 12) 1 (hz_dec kX6_removeLost 6 rfl) rfl ?_
  refine hz_callV (pc := 13) (a := nb + 18) (As := [.int (nI k0)]) (st := []) (hz_dec kX6_removeLost 7 rfl) co_X6_105 im_X7_remove se_X7_remove rfl hOb1 (by omega) (by omega) (c_rwRem hrB1 (by omega) (by omega) (by decide) (by decide) (by rw [List.length_map]; exact hk0)) rfl (by decide) ⟨Nat.le_refl _, Nat.le_refl _⟩ (Nat.le_of_ble_eq_true rfl) rfl (fun r9 z9 M2 hp9 => ?_)
  obtain ⟨rfl, rfl, hf2, hr2⟩ := hp9
  exact hz_vret (pc := 16) (hz_dec kX6_removeLost 8 rfl) rfl ⟨rfl, rfl, (hf1.mono (fun q hq => by simp only [outS, and_true] at hq ⊢; omega)).tr (hf2.mono (fun q hq => by simp only [outS, and_true] at hq ⊢; omega)), hr1.fr (fun q q1 q2 => hf2.at1 (by omega)), by rw [map_er]; exact hr2, hCh.imp (fun g q9 => ((hf2.at1 (q := nb + 14) (by omega)).trans (hf1.at1 (q := nb + 14) (by omega))).trans q9)⟩
set_option maxHeartbeats 4000000 in
set_option maxRecDepth 100000 in
theorem c_adLo {κ : hz_C} {z : Nat} {M : hz_M} {nb : Nat} {nu up nx fu rc rf : Int32} (hN : M nb = ndO nb nu up nx fu rc rf) (hnb8 : 63 ≤ nb) (hnbz : nb + 34 ≤ z) {lo : List by_L} (hL : loR M nb lo) (hlw : loW lo) {b n b2 n2 : Nat} {f f2 : Nat → Int32} {l : by_L} (hB : M b = .inl (1, n, .inl f)) (hb8 : 8 ≤ b) (hbz : b < z) (hn : n < 2 ^ 24) (hA : isA f 0 l) (hln : l.length ≤ n) (hWl : blW l) (hB2 : M b2 = .inl (1, n2, .inl f2)) (hb82 : 8 ≤ b2) (hbz2 : b2 < z) (hb2o : b2 < nb + 15 ∨ nb + 18 ≤ b2) (hn2 : n2 < 2 ^ 24) (hA2 : isA f2 0 (haS l)) (hn32 : 32 ≤ n2) (hl8 : lo.length < 8) : hz_Mt κ xX6_addLost 2 0 0 [.ref nb, .ref b, .int (nI l.length), .ref b2] z M (fun r z2 M2 => none = r ∧ z = z2 ∧ frS [(nb + 15, nb + 21)] M M2 ∧ loR M2 nb (lo ++ [l])) := by
  refine hz_ent (lo := [(0, .ref nb), (1, .ref b), (2, .int (nI (l.length))), (3, .ref b2)]) (by decide) (Nat.le_of_ble_eq_true rfl) rfl ?_
  obtain ⟨hrA, hrB, hCh⟩ := id hL
  obtain ⟨hOa, hlea, hoffa, fa1, ga1, hfa1, hga1, hXa⟩ := id hrA
  obtain ⟨hOb, hleb, hoffb, fb1, gb1, hfb1, hgb1, hXb⟩ := id hrB
  rw [List.length_map] at hOb hleb
  have hl8 := hlw.1
  have hln9 := hWl.len
  have ho1 := off_lo hlw lo.length (Nat.le_refl _)
  have ho2 := off_ha lo lo.length (Nat.le_refl _)
  have h32 := haS_len l
  refine hz_aloadn (pc := 0) 0 (hz_dec kX6_addLost 0 rfl) rfl ?_
  refine hz_get (pc := 1) (hz_dec kX6_addLost 1 rfl) fo_X6_47 hN (by omega) (by omega) rfl ?_
  refine hz_aloadn (pc := 4) 1 (hz_dec kX6_addLost 2 rfl) rfl ?_
  refine hz_iconst (pc := 5) (v := nI 0) (hz_dec kX6_addLost 3 rfl) (by decide) ?_
  refine hz_iloadn (pc := 6) 2 (hz_dec kX6_addLost 4 rfl) rfl ?_
  refine hz_callV (pc := 7) (a := nb + 15) (As := [.ref b, .int (nI 0), .int (nI (l.length))]) (st := []) (hz_dec kX6_addLost 5 rfl) co_X6_101 im_X7_add se_X7_add rfl hOa (by omega) (by omega) (c_rwAdd hrA (by omega) (by omega) (by decide) (by decide) hB hb8 hbz (by omega) hA (by omega) (by omega) (by omega) (by omega)) rfl (by decide) ⟨Nat.le_refl _, Nat.le_refl _⟩ (Nat.le_of_ble_eq_true rfl) rfl (fun r9 z9 M1 hp9 => ?_)
  obtain ⟨rfl, rfl, hf1, hr1⟩ := hp9
  have hrB1 : rwR M1 (nb + 18) 256 8 (lo.map haS) := hrB.fr (fun q q1 q2 => hf1.at1 (by omega))
  have hN1 := (hf1.at1 (q := nb) (by omega)).trans hN
  obtain ⟨hOb1, -⟩ := id hrB1
  rw [List.length_map] at hOb1
  have hB21 := (hf1.at1 (q := b2) (by omega)).trans hB2
  refine hz_z_eq (pc := 10) (tgt := 25) (hz_dec kX6_addLost 6 rfl) (by decide) (by omega) (fun h5 => ?_) (fun h5 => ?_)
  · skip
    exact absurd h5 (by omega)
  · skip
    refine hz_aloadn (pc := 13) 0 (hz_dec kX6_addLost 7 rfl) rfl ?_
    refine hz_get (pc := 14) (hz_dec kX6_addLost 8 rfl) fo_X6_50 hN1 (by omega) (by omega) rfl ?_
    refine hz_aloadn (pc := 17) 3 (hz_dec kX6_addLost 9 rfl) rfl ?_
    refine hz_iconst (pc := 18) (v := nI 0) (hz_dec kX6_addLost 10 rfl) (by decide) ?_
    refine hz_bipush (pc := 19) (v := nI 32) (hz_dec kX6_addLost 11 rfl) (by decide) ?_
    have qa := c_rwAdd (κ := κ) hrB1 (by omega) (by omega) (by decide) (by decide) hB21 hb82 hbz2 (by omega) hA2 (by omega) (by omega) (by rw [List.length_map]; omega) (by rw [List.length_map]; omega)
    rw [h32] at qa
    refine hz_callV (pc := 21) (a := nb + 18) (As := [.ref b2, .int (nI 0), .int (nI 32)]) (st := []) (hz_dec kX6_addLost 12 rfl) co_X6_101 im_X7_add se_X7_add rfl hOb1 (by omega) (by omega) (qa) rfl (by decide) ⟨Nat.le_refl _, Nat.le_refl _⟩ (Nat.le_of_ble_eq_true rfl) rfl (fun r9 z9 M2 hp9 => ?_)
    obtain ⟨rfl, rfl, hf2, hr2⟩ := hp9
    refine hz_pop (pc := 24) (hz_dec kX6_addLost 13 rfl) rfl ?_
    exact hz_vret (pc := 25) (hz_dec kX6_addLost 14 rfl) rfl ⟨rfl, rfl, (hf1.mono (fun q hq => by simp only [outS, and_true] at hq ⊢; omega)).tr (hf2.mono (fun q hq => by simp only [outS, and_true] at hq ⊢; omega)), hr1.fr (fun q q1 q2 => hf2.at1 (by omega)), by rw [List.map_append]; exact hr2, hCh.imp (fun g q9 => ((hf2.at1 (q := nb + 14) (by omega)).trans (hf1.at1 (q := nb + 14) (by omega))).trans q9)⟩
def loF (lo : List by_L) (s : by_L) : Nat := fsI (fun k => smS (subL (rowL lo k) 0 32) s) lo.length
set_option maxHeartbeats 4000000 in
set_option maxRecDepth 100000 in
theorem c_lBe_l {κ : hz_C} {z : Nat} {M : hz_M} {nb : Nat} {nu up nx fu rc rf : Int32} (hN : M nb = ndO nb nu up nx fu rc rf) (hnb8 : 63 ≤ nb) (hnbz : nb + 34 ≤ z) {lo : List by_L} (hL : loR M nb lo) (hlw : loW lo) {bl : List bk_B} {tip : Nat} {en : List en_E} (hT : trR M (nb + 21) bl tip en) {x : Nat} (hx : x < bl.length) : ∀ k i, k = lo.length - i → i ≤ lo.length → (∀ j, j < i → smS (subL (rowL lo j) 0 32) (haS (bBy bl x)) = false) → hz_W κ xX6_lostBehind 1 0 0 (hz_ex (some (.int (ixI (loF lo (haS (bBy bl x))) lo.length))) z M) 0 0 2 [(2, .int (nI i)), (0, .ref nb), (1, .int (nI x))] [] z M := by
  intro k
  induction k using Nat.strongRecOn with
  | ind k ih =>
  intro i hk hi hno
  obtain ⟨hrA, hrB, hCh⟩ := id hL
  obtain ⟨hOa, hlea, hoffa, fa1, ga1, hfa1, hga1, hXa⟩ := id hrA
  obtain ⟨hOb, hleb, hoffb, fb1, gb1, hfb1, hgb1, hXb⟩ := id hrB
  rw [List.length_map] at hOb hleb
  have hl8 := hlw.1
  obtain ⟨hT0, -, ⟨fh, hfh, hfhX⟩, -, -, -, -, -, hl113, -⟩ := id hT
  refine hz_iloadn (pc := 2) 0 (hz_dec kX6_lostBehind 2 rfl) rfl ?_
  refine hz_aloadn (pc := 3) 1 (hz_dec kX6_lostBehind 3 rfl) rfl ?_
  refine hz_get (pc := 4) (hz_dec kX6_lostBehind 4 rfl) fo_X6_47 hN (by omega) (by omega) rfl ?_
  refine hz_get (pc := 7) (hz_dec kX6_lostBehind 5 rfl) fo_X6_88 hOa (by omega) (by omega) rfl ?_
  refine hz_n_ge (pc := 10) (tgt := 56) (hz_dec kX6_lostBehind 6 rfl) (by decide) (by omega) (by omega) (fun h1 => ?_) (fun h1 => ?_)
  · skip
    have e : i = lo.length := by omega
    refine hz_iconst (pc := 56) (v := (-1)) (hz_dec kX6_lostBehind 28 rfl) (by decide) ?_
    refine hz_iret (pc := 57) (hz_dec kX6_lostBehind 29 rfl) rfl ⟨?_, rfl, rfl⟩
    unfold ixI loF
    rw [fsI_no (p := fun k => smS (subL (rowL lo k) 0 32) (haS (bBy bl x))) _ (fun j hj => hno j (by omega)), if_neg (by omega)]
  · skip
    have hPA := hXa.2 i h1
    have hlen9 := (hlw.2 i h1).len
    have ho1 := off_lo hlw i (by omega)
    have hPB := isA_sub (i := 0) (n := 32) hPA (by omega)
    rw [Nat.add_zero] at hPB
    refine hz_aloadn (pc := 13) 1 (hz_dec kX6_lostBehind 7 rfl) rfl ?_
    refine hz_get (pc := 14) (hz_dec kX6_lostBehind 8 rfl) fo_X6_47 hN (by omega) (by omega) rfl ?_
    refine hz_get (pc := 17) (hz_dec kX6_lostBehind 9 rfl) fo_X6_91 hOa (by omega) (by omega) rfl ?_
    refine hz_aloadn (pc := 20) 1 (hz_dec kX6_lostBehind 10 rfl) rfl ?_
    refine hz_get (pc := 21) (hz_dec kX6_lostBehind 11 rfl) fo_X6_47 hN (by omega) (by omega) rfl ?_
    refine hz_get (pc := 24) (hz_dec kX6_lostBehind 12 rfl) fo_X6_94 hOa (by omega) (by omega) rfl ?_
    refine hz_iloadn (pc := 27) 0 (hz_dec kX6_lostBehind 13 rfl) rfl ?_
    refine hz_iald (pc := 28) (j := i) (hz_dec kX6_lostBehind 14 rfl) hga1 (by omega) (by omega) rfl (by omega) (by decide) ?_
    refine hz_eqi (pc := 29) (hXa.1 (i) (by omega)) ?_
    refine hz_aloadn (pc := 29) 1 (hz_dec kX6_lostBehind 15 rfl) rfl ?_
    refine hz_get (pc := 30) (hz_dec kX6_lostBehind 16 rfl) fo_X6_61 hN (by omega) (by omega) rfl ?_
    refine hz_get (pc := 33) (hz_dec kX6_lostBehind 17 rfl) fo_X6_109 hT0 (by omega) (by omega) rfl ?_
    refine hz_bipush (pc := 36) (v := nI 32) (hz_dec kX6_lostBehind 18 rfl) (by decide) ?_
    refine hz_iloadn (pc := 38) 2 (hz_dec kX6_lostBehind 19 rfl) rfl ?_
    refine hz_mulN (pc := 39) (hz_dec kX6_lostBehind 20 rfl) ?_
    refine hz_bipush (pc := 40) (v := nI 32) (hz_dec kX6_lostBehind 21 rfl) (by decide) ?_
    refine hz_xS (pc := 42) (As := [.ref (nb + 15 + 1), .int (nI (offL lo i)), .ref (nb + 21 + 4), .int (nI (32 * x)), .int (nI 32)]) (st := []) (hz_dec kX6_lostBehind 22 rfl) co_X6_97 sc_X0_same (c_same hfa1 (by omega) (by omega) (by decide) hfh (by omega) (by omega) (by decide) (by omega) (by omega)) rfl (by decide) ⟨Nat.le_refl _, Nat.le_refl _⟩ (Nat.le_of_ble_eq_true rfl) rfl ?_
    refine hz_eqi (pc := 45) (show _ = hz_b (smS (subL (rowL lo i) 0 32) (haS (bBy bl x))) by rw [smB_sm, smS_of hPB (hfhX x hx) (subL_len _ _ _) (haS_len _)]) ?_
    refine hz_if_eq (pc := 45) (tgt := 50) (hz_dec kX6_lostBehind 23 rfl) (by decide) (fun h2 => ?_) (fun h2 => ?_)
    · skip
      refine hz_incN (pc := 50) (i := 2) (lo2 := [(2, .int (nI (i + 1))), (0, .ref nb), (1, .int (nI x))]) 0 (hz_dec kX6_lostBehind 26 rfl) rfl (by decide) rfl ?_
      refine hz_goto (pc := 53) (tgt := 2) (hz_dec kX6_lostBehind 27 rfl) (by decide) ?_
      refine hz_pick (pc := 2) [0, 1, 2] rfl ?_
      refine ih (lo.length - (i + 1)) (by omega) (i + 1) rfl (by omega) (fun j hj => ?_)
      rcases (show j = i ∨ j < i by omega) with e | c
      · rw [e]; exact hz_b0 h2
      · exact hno j c
    · skip
      refine hz_iloadn (pc := 48) 0 (hz_dec kX6_lostBehind 24 rfl) rfl ?_
      refine hz_iret (pc := 49) (hz_dec kX6_lostBehind 25 rfl) rfl ⟨?_, rfl, rfl⟩
      unfold ixI loF
      rw [fsI_at (i := i) (p := fun k => smS (subL (rowL lo k) 0 32) (haS (bBy bl x))) (hz_b1 h2) hno _ h1, if_pos h1]
set_option maxHeartbeats 4000000 in
set_option maxRecDepth 100000 in
theorem c_lBe {κ : hz_C} {z : Nat} {M : hz_M} {nb : Nat} {nu up nx fu rc rf : Int32} (hN : M nb = ndO nb nu up nx fu rc rf) (hnb8 : 63 ≤ nb) (hnbz : nb + 34 ≤ z) {lo : List by_L} (hL : loR M nb lo) (hlw : loW lo) {bl : List bk_B} {tip : Nat} {en : List en_E} (hT : trR M (nb + 21) bl tip en) {x : Nat} (hx : x < bl.length) : hz_Mt κ xX6_lostBehind 1 0 0 [.ref nb, .int (nI x)] z M (hz_ex (some (.int (ixI (loF lo (haS (bBy bl x))) lo.length))) z M) := by
  refine hz_ent (lo := [(0, .ref nb), (1, .int (nI x))]) (by decide) (Nat.le_of_ble_eq_true rfl) rfl ?_
  refine hz_iconst (pc := 0) (v := nI 0) (hz_dec kX6_lostBehind 0 rfl) (by decide) ?_
  refine hz_istoren (pc := 1) (i := 2) (lo2 := [(2, .int (nI 0)), (0, .ref nb), (1, .int (nI x))]) (hz_dec kX6_lostBehind 1 rfl) rfl (by decide) rfl ?_
  refine hz_pick (pc := 2) [0, 1, 2] rfl ?_
  exact c_lBe_l hN hnb8 hnbz hL hlw hT hx lo.length 0 rfl (by omega) (fun j hj => absurd hj (by omega))
