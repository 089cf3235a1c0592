/-! Tree: where it stands, the searches in it -/
def trO (t tip : Nat) : va_E := .inr (10, [.ref (t + 1), .ref (t + 4), .ref (t + 5), .ref (t + 6), .ref (t + 7), .ref (t + 8), .ref (t + 9), .ref (t + 10), .int (nI tip), .ref (t + 11), .ref (t + 12), .ref 20])
def trW (bl : List bk_B) (tip : Nat) (en : List en_E) : Prop := bl.length ≤ 113 ∧ bl.length ≤ en.length ∧ en.length ≤ 129 ∧ (∀ k, k < bl.length → enL en k = enOf (bkL bl k)) ∧ wfE en ∧ tip < bl.length
def trR (M : hz_M) (t : Nat) (bl : List bk_B) (tip : Nat) (en : List en_E) : Prop := M t = trO t tip ∧ rwR M (t + 1) 12391 113 (bl.map Prod.fst) ∧
  (∃ fh : Nat → Int32, M (t + 4) = .inl (1, 3616, .inl fh) ∧ ∀ k, k < bl.length → isA fh (32 * k) (haS (bBy bl k))) ∧
  (∃ fb fht ftm fbi : Nat → Int32, M (t + 5) = .inl (0, 129, .inl fb) ∧ M (t + 6) = .inl (0, 129, .inl fht) ∧ M (t + 7) = .inl (0, 129, .inl ftm) ∧ M (t + 8) = .inl (0, 129, .inl fbi) ∧ enX fb fht ftm fbi en) ∧
  (∃ fto : Nat → Int32, M (t + 9) = .inl (0, 904, .inl fto) ∧ ∀ k, k < bl.length → bg fto (8 * k) 8 = bTo bl k) ∧
  (∃ fid : Nat → Int64, M (t + 10) = .inl (2, 904, .inr (.inl fid)) ∧ ∀ k, k < bl.length → ∀ j, j < bkN (bBy bl k) → fid (8 * k + j) = idS (bkT (bBy bl k) j)) ∧
  (∃ fc : Nat → Int32, M (t + 11) = .inl (0, 113, .inl fc) ∧ ∀ h, h ≤ eH en tip → fc h = nI (chE en tip h)) ∧
  (∃ fm : Nat → Int32, M (t + 12) = .inl (0, 11, .inl fm)) ∧ trW bl tip en
theorem trR.fr {M M2 : hz_M} {t : Nat} {bl : List bk_B} {tip : Nat} {en : List en_E} (h : trR M t bl tip en) (e : ∀ q, t ≤ q → q < t + 13 → M2 q = M q) : trR M2 t bl tip en := by
  obtain ⟨hT, hrw, ⟨fh, hfh, hfhX⟩, ⟨fb, fht, ftm, fbi, hfb, hfht, hftm, hfbi, hEX⟩, ⟨fto, hfto, hftoX⟩, ⟨fid, hfid, hfidX⟩, ⟨fc, hfc, hfcX⟩, ⟨fm, hfm⟩, hw⟩ := h
  exact ⟨(e t (by omega) (by omega)).trans hT, hrw.fr (fun q h1 h2 => e q (by omega) (by omega)), ⟨fh, (e _ (by omega) (by omega)).trans hfh, hfhX⟩, ⟨fb, fht, ftm, fbi, (e _ (by omega) (by omega)).trans hfb, (e _ (by omega) (by omega)).trans hfht, (e _ (by omega) (by omega)).trans hftm, (e _ (by omega) (by omega)).trans hfbi, hEX⟩, ⟨fto, (e _ (by omega) (by omega)).trans hfto, hftoX⟩, ⟨fid, (e _ (by omega) (by omega)).trans hfid, hfidX⟩, ⟨fc, (e _ (by omega) (by omega)).trans hfc, hfcX⟩, ⟨fm, (e _ (by omega) (by omega)).trans hfm⟩, hw⟩
/-- all but the scratch row stands -/
theorem trR.fm {M M2 : hz_M} {t : Nat} {bl : List bk_B} {tip : Nat} {en : List en_E} (h : trR M t bl tip en) (e : ∀ q, t ≤ q → q < t + 12 → M2 q = M q) (e2 : ∃ fm : Nat → Int32, M2 (t + 12) = .inl (0, 11, .inl fm)) : trR M2 t bl tip en := by
  obtain ⟨hT, hrw, ⟨fh, hfh, hfhX⟩, ⟨fb, fht, ftm, fbi, hfb, hfht, hftm, hfbi, hEX⟩, ⟨fto, hfto, hftoX⟩, ⟨fid, hfid, hfidX⟩, ⟨fc, hfc, hfcX⟩, -, hw⟩ := h
  exact ⟨(e t (by omega) (by omega)).trans hT, hrw.fr (fun q h1 h2 => e q (by omega) (by omega)), ⟨fh, (e _ (by omega) (by omega)).trans hfh, hfhX⟩, ⟨fb, fht, ftm, fbi, (e _ (by omega) (by omega)).trans hfb, (e _ (by omega) (by omega)).trans hfht, (e _ (by omega) (by omega)).trans hftm, (e _ (by omega) (by omega)).trans hfbi, hEX⟩, ⟨fto, (e _ (by omega) (by omega)).trans hfto, hftoX⟩, ⟨fid, (e _ (by omega) (by omega)).trans hfid, hfidX⟩, ⟨fc, (e _ (by omega) (by omega)).trans hfc, hfcX⟩, e2, hw⟩
/-- as trR, but of the chain's row only that it stands -/
def trQ (M : hz_M) (t : Nat) (bl : List bk_B) (tip : Nat) (en : List en_E) : Prop := M t = trO t tip ∧ rwR M (t + 1) 12391 113 (bl.map Prod.fst) ∧
  (∃ fb fht ftm fbi : Nat → Int32, M (t + 5) = .inl (0, 129, .inl fb) ∧ M (t + 6) = .inl (0, 129, .inl fht) ∧ M (t + 7) = .inl (0, 129, .inl ftm) ∧ M (t + 8) = .inl (0, 129, .inl fbi) ∧ enX fb fht ftm fbi en) ∧ trW bl tip en
theorem trR.q {M : hz_M} {t : Nat} {bl : List bk_B} {tip : Nat} {en : List en_E} (h : trR M t bl tip en) : trQ M t bl tip en := ⟨h.1, h.2.1, h.2.2.2.1, h.2.2.2.2.2.2.2.2⟩
set_option maxHeartbeats 4000000 in
set_option maxRecDepth 100000 in
theorem c_trIx_l {κ : hz_C} {z : Nat} {M : hz_M} {t : Nat} {bl : List bk_B} {tip : Nat} {en : List en_E} (h : trR M t bl tip en) (ht8 : 63 ≤ t) (htz : t + 13 ≤ z) {b n at_ : Nat} {f : Nat → Int32} {s : by_L} (hB : M b = .inl (1, n, .inl f)) (hb8 : 8 ≤ b) (hbz : b < z) (hn : n < 2 ^ 29) (hs : isA f at_ s) (hs32 : s.length = 32) (hat : at_ + 32 ≤ n) : ∀ k i, k = bl.length - i → i ≤ bl.length → (∀ j, j < i → smS (haS (bBy bl j)) s = false) → hz_W κ xX10_indexOf 1 0 0 (hz_ex (some (.int (ixI (blF bl s) bl.length))) z M) 0 0 2 [(3, .int (nI i)), (0, .ref t), (1, .ref b), (2, .int (nI at_))] [] z M := by
  intro k
  induction k using Nat.strongRecOn with
  | ind k ih =>
  intro i hk hi hno
  obtain ⟨hT, hrw, ⟨fh, hfh, hfhX⟩, ⟨fb, fht, ftm, fbi, hfb, hfht, hftm, hfbi, hEX⟩, ⟨fto, hfto, hftoX⟩, ⟨fid, hfid, hfidX⟩, ⟨fc, hfc, hfcX⟩, ⟨fm, hfm⟩, hl113, hlen, hen, hst, hwf, htip⟩ := id h
  obtain ⟨hO1, hle1, hoff1, f1, g1, hf1, hg1, hX1⟩ := id hrw
  rw [List.length_map] at hO1 hle1
  refine hz_iloadn (pc := 2) 0 (hz_dec kX10_indexOf 2 rfl) rfl ?_
  refine hz_aloadn (pc := 3) 1 (hz_dec kX10_indexOf 3 rfl) rfl ?_
  refine hz_get (pc := 4) (hz_dec kX10_indexOf 4 rfl) fo_X10_14 hT (by omega) (by omega) rfl ?_
  refine hz_get (pc := 7) (hz_dec kX10_indexOf 5 rfl) fo_X10_54 hO1 (by omega) (by omega) rfl ?_
  refine hz_n_ge (pc := 10) (tgt := 39) (hz_dec kX10_indexOf 6 rfl) (by decide) (by omega) (by omega) (fun h1 => ?_) (fun h1 => ?_)
  · skip
    have e : i = bl.length := by omega
    subst e
    refine hz_iconst (pc := 39) (v := (-1)) (hz_dec kX10_indexOf 21 rfl) (by decide) ?_
    refine hz_iret (pc := 40) (hz_dec kX10_indexOf 22 rfl) rfl ⟨?_, rfl, rfl⟩
    unfold ixI blF
    rw [fsI_no (p := fun k => smS (haS (bBy bl k)) s) _ hno, if_neg (by omega)]
  · skip
    refine hz_aloadn (pc := 13) 1 (hz_dec kX10_indexOf 7 rfl) rfl ?_
    refine hz_get (pc := 14) (hz_dec kX10_indexOf 8 rfl) fo_X10_20 hT (by omega) (by omega) rfl ?_
    refine hz_bipush (pc := 17) (v := nI 32) (hz_dec kX10_indexOf 9 rfl) (by decide) ?_
    refine hz_iloadn (pc := 19) 0 (hz_dec kX10_indexOf 10 rfl) rfl ?_
    refine hz_mulN (pc := 20) (hz_dec kX10_indexOf 11 rfl) ?_
    refine hz_aloadn (pc := 21) 2 (hz_dec kX10_indexOf 12 rfl) rfl ?_
    refine hz_iloadn (pc := 22) 3 (hz_dec kX10_indexOf 13 rfl) rfl ?_
    refine hz_bipush (pc := 23) (v := nI 32) (hz_dec kX10_indexOf 14 rfl) (by decide) ?_
    refine hz_xS (pc := 25) (As := [.ref (t + 4), .int (nI (32 * i)), .ref b, .int (nI at_), .int (nI 32)]) (st := []) (hz_dec kX10_indexOf 15 rfl) co_X10_67 sc_X0_same (c_same hfh (by omega) (by omega) (by decide) hB hb8 hbz (by omega) (by omega) hat) rfl (by decide) ⟨Nat.le_refl _, Nat.le_refl _⟩ (Nat.le_of_ble_eq_true rfl) rfl ?_
    refine hz_eqi (pc := 28) (show _ = hz_b (smS (haS (bBy bl i)) s) by rw [smB_sm, smS_of (hfhX i (by omega)) hs (haS_len _) hs32]) ?_
    refine hz_if_eq (pc := 28) (tgt := 33) (hz_dec kX10_indexOf 16 rfl) (by decide) (fun h2 => ?_) (fun h2 => ?_)
    · skip
      refine hz_incN (pc := 33) (i := 3) (lo2 := [(3, .int (nI (i + 1))), (0, .ref t), (1, .ref b), (2, .int (nI at_))]) 0 (hz_dec kX10_indexOf 19 rfl) rfl (by decide) rfl ?_
      refine hz_goto (pc := 36) (tgt := 2) (hz_dec kX10_indexOf 20 rfl) (by decide) ?_
      refine hz_pick (pc := 2) [0, 1, 2, 3] rfl ?_
      refine ih (bl.length - (i + 1)) (by omega) (i + 1) rfl (by omega) (fun j hj => ?_)
      rcases (show j = i ∨ j < i by omega) with rfl | c
      · exact hz_b0 h2
      · exact hno j c
    · skip
      refine hz_iloadn (pc := 31) 0 (hz_dec kX10_indexOf 17 rfl) rfl ?_
      refine hz_iret (pc := 32) (hz_dec kX10_indexOf 18 rfl) rfl ⟨?_, rfl, rfl⟩
      unfold ixI blF
      rw [fsI_at (i := i) (p := fun k => smS (haS (bBy bl k)) s) (hz_b1 h2) hno _ (by omega), if_pos (by omega)]
set_option maxHeartbeats 4000000 in
set_option maxRecDepth 100000 in
theorem c_trIx {κ : hz_C} {z : Nat} {M : hz_M} {t : Nat} {bl : List bk_B} {tip : Nat} {en : List en_E} (h : trR M t bl tip en) (ht8 : 63 ≤ t) (htz : t + 13 ≤ z) {b n at_ : Nat} {f : Nat → Int32} {s : by_L} (hB : M b = .inl (1, n, .inl f)) (hb8 : 8 ≤ b) (hbz : b < z) (hn : n < 2 ^ 29) (hs : isA f at_ s) (hs32 : s.length = 32) (hat : at_ + 32 ≤ n) : hz_Mt κ xX10_indexOf 1 0 0 [.ref t, .ref b, .int (nI at_)] z M (hz_ex (some (.int (ixI (blF bl s) bl.length))) z M) := by
  refine hz_ent (lo := [(0, .ref t), (1, .ref b), (2, .int (nI at_))]) (by decide) (Nat.le_of_ble_eq_true rfl) rfl ?_
  refine hz_iconst (pc := 0) (v := nI 0) (hz_dec kX10_indexOf 0 rfl) (by decide) ?_
  refine hz_istoren (pc := 1) (i := 3) (lo2 := [(3, .int (nI 0)), (0, .ref t), (1, .ref b), (2, .int (nI at_))]) (hz_dec kX10_indexOf 1 rfl) rfl (by decide) rfl ?_
  refine hz_pick (pc := 2) [0, 1, 2, 3] rfl ?_
  exact c_trIx_l h ht8 htz hB hb8 hbz hn hs hs32 hat bl.length 0 rfl (by omega) (fun j hj => absurd hj (by omega))
set_option maxHeartbeats 4000000 in
set_option maxRecDepth 100000 in
theorem c_trOn {κ : hz_C} {z : Nat} {M : hz_M} {t : Nat} {bl : List bk_B} {tip : Nat} {en : List en_E} (h : trR M t bl tip en) (ht8 : 63 ≤ t) (htz : t + 13 ≤ z) {k : Nat} (hk : k < bl.length) : hz_Mt κ xX10_isOnChain 0 0 0 [.ref t, .int (nI k)] z M (hz_ex (some (.int (hz_b (onC en tip k)))) z M) := by
  refine hz_ent (lo := [(0, .ref t), (1, .int (nI k))]) (by decide) (Nat.le_of_ble_eq_true rfl) rfl ?_
  obtain ⟨hT, hrw, ⟨fh, hfh, hfhX⟩, ⟨fb, fht, ftm, fbi, hfb, hfht, hftm, hfbi, hEX⟩, ⟨fto, hfto, hftoX⟩, ⟨fid, hfid, hfidX⟩, ⟨fc, hfc, hfcX⟩, ⟨fm, hfm⟩, hl113, hlen, hen, hst, hwf, htip⟩ := id h
  obtain ⟨hO1, hle1, hoff1, f1, g1, hf1, hg1, hX1⟩ := id hrw
  rw [List.length_map] at hO1 hle1
  have hk9 := hwf.ht (k := k) (by omega)
  have ht9 := hwf.ht (k := tip) (by omega)
  refine hz_iloadn (pc := 0) 1 (hz_dec kX10_isOnChain 0 rfl) rfl ?_
  refine hz_z_lt (pc := 1) (tgt := 52) (hz_dec kX10_isOnChain 1 rfl) (by decide) (by omega) ?_
  refine hz_iloadn (pc := 4) 1 (hz_dec kX10_isOnChain 2 rfl) rfl ?_
  refine hz_aloadn (pc := 5) 0 (hz_dec kX10_isOnChain 3 rfl) rfl ?_
  refine hz_get (pc := 6) (hz_dec kX10_isOnChain 4 rfl) fo_X10_14 hT (by omega) (by omega) rfl ?_
  refine hz_get (pc := 9) (hz_dec kX10_isOnChain 5 rfl) fo_X10_54 hO1 (by omega) (by omega) rfl ?_
  refine hz_n_ge (pc := 12) (tgt := 52) (hz_dec kX10_isOnChain 6 rfl) (by decide) (by omega) (by omega) (fun h1 => ?_) (fun h1 => ?_)
  · skip
    exact absurd h1 (by omega)
  · skip
    refine hz_aloadn (pc := 15) 0 (hz_dec kX10_isOnChain 7 rfl) rfl ?_
    refine hz_get (pc := 16) (hz_dec kX10_isOnChain 8 rfl) fo_X10_28 hT (by omega) (by omega) rfl ?_
    refine hz_iloadn (pc := 19) 1 (hz_dec kX10_isOnChain 9 rfl) rfl ?_
    refine hz_iald (pc := 20) (j := k) (hz_dec kX10_isOnChain 10 rfl) hfht (by omega) (by omega) rfl (by omega) (by decide) ?_
    refine hz_eqi (pc := 21) (hEX (k) (by omega)).2.1 ?_
    refine hz_aloadn (pc := 21) 0 (hz_dec kX10_isOnChain 11 rfl) rfl ?_
    refine hz_get (pc := 22) (hz_dec kX10_isOnChain 12 rfl) fo_X10_28 hT (by omega) (by omega) rfl ?_
    refine hz_aloadn (pc := 25) 0 (hz_dec kX10_isOnChain 13 rfl) rfl ?_
    refine hz_get (pc := 26) (hz_dec kX10_isOnChain 14 rfl) fo_X10_64 hT (by omega) (by omega) rfl ?_
    refine hz_iald (pc := 29) (j := tip) (hz_dec kX10_isOnChain 15 rfl) hfht (by omega) (by omega) rfl (by omega) (by decide) ?_
    refine hz_eqi (pc := 30) (hEX (tip) (by omega)).2.1 ?_
    refine hz_n_gt (pc := 30) (tgt := 52) (hz_dec kX10_isOnChain 16 rfl) (by decide) (by omega) (by omega) (fun h3 => ?_) (fun h3 => ?_)
    · skip
      refine hz_iconst (pc := 52) (v := nI 0) (hz_dec kX10_isOnChain 28 rfl) (by decide) ?_
      exact hz_zret (pc := 53) (hz_dec kX10_isOnChain 29 rfl) rfl rfl ⟨by rw [show onC en tip k = false from decide_eq_false (fun q => by have := q.1; omega)]; rfl, rfl, rfl⟩
    · skip
      have hch : chE en tip (eH en k) < 200 := by unfold chE; have q := hwf.up (k := tip) (by omega) (eH en tip - eH en k) (by omega); omega
      refine hz_aloadn (pc := 33) 0 (hz_dec kX10_isOnChain 17 rfl) rfl ?_
      refine hz_get (pc := 34) (hz_dec kX10_isOnChain 18 rfl) fo_X10_44 hT (by omega) (by omega) rfl ?_
      refine hz_aloadn (pc := 37) 0 (hz_dec kX10_isOnChain 19 rfl) rfl ?_
      refine hz_get (pc := 38) (hz_dec kX10_isOnChain 20 rfl) fo_X10_28 hT (by omega) (by omega) rfl ?_
      refine hz_iloadn (pc := 41) 1 (hz_dec kX10_isOnChain 21 rfl) rfl ?_
      refine hz_iald (pc := 42) (j := k) (hz_dec kX10_isOnChain 22 rfl) hfht (by omega) (by omega) rfl (by omega) (by decide) ?_
      refine hz_eqi (pc := 43) (hEX (k) (by omega)).2.1 ?_
      refine hz_iald (pc := 43) (j := eH en (k)) (hz_dec kX10_isOnChain 23 rfl) hfc (by omega) (by omega) rfl (by omega) (by decide) ?_
      refine hz_eqi (pc := 44) (hfcX (eH en (k)) (by omega)) ?_
      refine hz_iloadn (pc := 44) 1 (hz_dec kX10_isOnChain 24 rfl) rfl ?_
      refine hz_n_ne (pc := 45) (tgt := 52) (hz_dec kX10_isOnChain 25 rfl) (by decide) (by omega) (by omega) (fun h4 => ?_) (fun h4 => ?_)
      · skip
        refine hz_iconst (pc := 52) (v := nI 0) (hz_dec kX10_isOnChain 28 rfl) (by decide) ?_
        exact hz_zret (pc := 53) (hz_dec kX10_isOnChain 29 rfl) rfl rfl ⟨by rw [show onC en tip k = false from decide_eq_false (fun q => h4 q.2)]; rfl, rfl, rfl⟩
      · skip
        refine hz_iconst (pc := 48) (v := nI 1) (hz_dec kX10_isOnChain 26 rfl) (by decide) ?_
        refine hz_goto (pc := 49) (tgt := 53) (hz_dec kX10_isOnChain 27 rfl) (by decide) ?_
        exact hz_zret (pc := 53) (hz_dec kX10_isOnChain 29 rfl) rfl rfl ⟨by rw [show onC en tip k = true from decide_eq_true ⟨by omega, h4⟩]; rfl, rfl, rfl⟩
set_option maxHeartbeats 4000000 in
set_option maxRecDepth 100000 in
theorem c_trFo_l {κ : hz_C} {z : Nat} {M : hz_M} {t : Nat} {bl : List bk_B} {tip : Nat} {en : List en_E} (h : trQ M t bl tip en) (ht8 : 63 ≤ t) (htz : t + 13 ≤ z) {a nl : Nat} {fl : Nat → Int32} (hL : M a = .inl (0, nl, .inl fl)) (ha8 : 8 ≤ a) (haz : a < z) (hnl : nl < 2 ^ 29) (hao : a < t ∨ t + 13 ≤ a ∨ a = t + 11) {x : Nat} (hx : x < bl.length) (hxl : eH en x < nl) : ∀ q g, q ≤ eH en x → (∀ h, q < h → h ≤ eH en x → g h = nI (chE en x h)) → hz_W κ xX10_follow 0 0 0 (fun r z2 M2 => some (.int (nI (eH en x))) = r ∧ z = z2 ∧ ∃ g : Nat → Int32, (∀ h, h ≤ eH en x → g h = nI (chE en x h)) ∧ va_up M a (.inl (0, nl, .inl g)) = M2) 0 0 38 [(4, .int (nI q)), (3, .int (nI (upE en x (eH en x - q)))), (0, .ref t), (1, .int (nI x)), (2, .ref a)] [] z (va_up M a (.inl (0, nl, .inl g))) := by
  intro q
  induction q with
  | zero =>
    intro g hq hg
    obtain ⟨hT, hrw, ⟨fb, fht, ftm, fbi, hfb, hfht, hftm, hfbi, hEX⟩, hl113, hlen, hen, hst, hwf, htip⟩ := id h
    obtain ⟨hO1, hle1, hoff1, f1, g1, hf1, hg1, hX1⟩ := id hrw
    rw [List.length_map] at hO1 hle1
    have hxe := hwf.ht (k := x) (by omega)
    have hup := hwf.up (k := x) (by omega)
    have hu0 := hup (eH en x - 0) (by omega)
    refine hz_iload (pc := 38) 0 (hz_dec kX10_follow 23 rfl) rfl ?_
    refine hz_z_lt (pc := 40) (tgt := 65) (hz_dec kX10_follow 24 rfl) (by decide) (by omega) ?_
    refine hz_iloadn (pc := 43) 1 (hz_dec kX10_follow 25 rfl) rfl ?_
    refine hz_z_lt (pc := 44) (tgt := 65) (hz_dec kX10_follow 26 rfl) (by decide) (by omega) ?_
    refine hz_aloadn (pc := 47) 4 (hz_dec kX10_follow 27 rfl) rfl ?_
    refine hz_iload (pc := 48) 0 (hz_dec kX10_follow 28 rfl) rfl ?_
    refine hz_iloadn (pc := 50) 1 (hz_dec kX10_follow 29 rfl) rfl ?_
    refine hz_iast (pc := 51) (j := 0) (hz_dec kX10_follow 30 rfl) (va_up_self _ _ _) ha8 haz rfl (by omega) (by omega) ?_
    refine hz_mem (pc := 52) (M2 := (va_up M a (.inl (0, nl, .inl (upd g 0 ((nI (upE en x (eH en x - 0))))))))) (bx_uu _ _ _ _) ?_
    refine hz_aloadn (pc := 52) 2 (hz_dec kX10_follow 31 rfl) rfl ?_
    refine hz_get (pc := 53) (hz_dec kX10_follow 32 rfl) fo_X10_24 (hz_mne hT (by omega)) (by omega) (by omega) rfl ?_
    refine hz_iloadn (pc := 56) 1 (hz_dec kX10_follow 33 rfl) rfl ?_
    refine hz_iald (pc := 57) (j := upE en x (eH en x - 0)) (hz_dec kX10_follow 34 rfl) (hz_mne hfb (by omega)) (by omega) (by omega) rfl (by omega) (by decide) ?_
    refine hz_eqi (pc := 58) (hEX (upE en x (eH en x - 0)) (by omega)).1 ?_
    refine hz_eqi (pc := 58) (show _ = (-1 : Int32) by rw [show eH en x - 0 = eH en x from rfl, (hwf.top (k := x) (by omega)).2]; rfl) ?_
    refine hz_istoren (pc := 58) (i := 3) (lo2 := [(3, .int (-1)), (4, .int (nI 0)), (0, .ref t), (1, .int (nI x)), (2, .ref a)]) (hz_dec kX10_follow 35 rfl) rfl (by decide) rfl ?_
    refine hz_iinc (pc := 59) (i := 4) (w := (-1)) (lo2 := [(4, .int (-1)), (3, .int (-1)), (0, .ref t), (1, .int (nI x)), (2, .ref a)]) 1 (hz_dec kX10_follow 36 rfl) rfl rfl (by decide) rfl ?_
    refine hz_goto (pc := 62) (tgt := 38) (hz_dec kX10_follow 37 rfl) (by decide) ?_
    refine hz_iload (pc := 38) 0 (hz_dec kX10_follow 23 rfl) rfl ?_
    refine hz_if_lt (pc := 40) (tgt := 65) (hz_dec kX10_follow 24 rfl) (by decide) (fun h5 => ?_) (fun h5 => ?_)
    · skip
      refine hz_aloadn (pc := 65) 2 (hz_dec kX10_follow 38 rfl) rfl ?_
      refine hz_get (pc := 66) (hz_dec kX10_follow 39 rfl) fo_X10_28 (hz_mne hT (by omega)) (by omega) (by omega) rfl ?_
      refine hz_iloadn (pc := 69) 3 (hz_dec kX10_follow 40 rfl) rfl ?_
      refine hz_iald (pc := 70) (j := x) (hz_dec kX10_follow 41 rfl) (hz_mne hfht (by omega)) (by omega) (by omega) rfl (by omega) (by decide) ?_
      refine hz_eqi (pc := 71) (hEX (x) (by omega)).2.1 ?_
      refine hz_iret (pc := 71) (hz_dec kX10_follow 42 rfl) rfl ⟨rfl, rfl, _, fun h9 hh => ?_, rfl⟩
      simp only [upd]
      split
      · next e => rw [e]; rfl
      · exact hg h9 (by omega) hh
    · skip
      exact absurd (by decide) h5
  | succ q ih =>
    intro g hq hg
    obtain ⟨hT, hrw, ⟨fb, fht, ftm, fbi, hfb, hfht, hftm, hfbi, hEX⟩, hl113, hlen, hen, hst, hwf, htip⟩ := id h
    obtain ⟨hO1, hle1, hoff1, f1, g1, hf1, hg1, hX1⟩ := id hrw
    rw [List.length_map] at hO1 hle1
    have hxe := hwf.ht (k := x) (by omega)
    have hup := hwf.up (k := x) (by omega)
    have hu0 := hup (eH en x - (q + 1)) (by omega)
    refine hz_iload (pc := 38) 0 (hz_dec kX10_follow 23 rfl) rfl ?_
    refine hz_z_lt (pc := 40) (tgt := 65) (hz_dec kX10_follow 24 rfl) (by decide) (by omega) ?_
    refine hz_iloadn (pc := 43) 1 (hz_dec kX10_follow 25 rfl) rfl ?_
    refine hz_z_lt (pc := 44) (tgt := 65) (hz_dec kX10_follow 26 rfl) (by decide) (by omega) ?_
    refine hz_aloadn (pc := 47) 4 (hz_dec kX10_follow 27 rfl) rfl ?_
    refine hz_iload (pc := 48) 0 (hz_dec kX10_follow 28 rfl) rfl ?_
    refine hz_iloadn (pc := 50) 1 (hz_dec kX10_follow 29 rfl) rfl ?_
    refine hz_iast (pc := 51) (j := q + 1) (hz_dec kX10_follow 30 rfl) (va_up_self _ _ _) ha8 haz rfl (by omega) (by omega) ?_
    refine hz_mem (pc := 52) (M2 := (va_up M a (.inl (0, nl, .inl (upd g (q + 1) ((nI (upE en x (eH en x - (q + 1)))))))))) (bx_uu _ _ _ _) ?_
    refine hz_aloadn (pc := 52) 2 (hz_dec kX10_follow 31 rfl) rfl ?_
    refine hz_get (pc := 53) (hz_dec kX10_follow 32 rfl) fo_X10_24 (hz_mne hT (by omega)) (by omega) (by omega) rfl ?_
    refine hz_iloadn (pc := 56) 1 (hz_dec kX10_follow 33 rfl) rfl ?_
    refine hz_iald (pc := 57) (j := upE en x (eH en x - (q + 1))) (hz_dec kX10_follow 34 rfl) (hz_mne hfb (by omega)) (by omega) (by omega) rfl (by omega) (by decide) ?_
    refine hz_eqi (pc := 58) (hEX (upE en x (eH en x - (q + 1))) (by omega)).1 ?_
    refine hz_eqi (pc := 58) (show _ = nI (upE en x (eH en x - q)) by rw [hwf.pv (k := x) (by omega) (by omega), show eH en x - (q + 1) + 1 = eH en x - q by omega]; rfl) ?_
    refine hz_istoren (pc := 58) (i := 3) (lo2 := [(3, .int (nI (upE en x (eH en x - q)))), (4, .int (nI (q + 1))), (0, .ref t), (1, .int (nI x)), (2, .ref a)]) (hz_dec kX10_follow 35 rfl) rfl (by decide) rfl ?_
    refine hz_decN (pc := 59) (i := 4) (lo2 := [(4, .int (nI q)), (3, .int (nI (upE en x (eH en x - q)))), (0, .ref t), (1, .int (nI x)), (2, .ref a)]) 1 (hz_dec kX10_follow 36 rfl) rfl (by decide) rfl ?_
    refine hz_goto (pc := 62) (tgt := 38) (hz_dec kX10_follow 37 rfl) (by decide) ?_
    refine hz_pick (pc := 38) [0, 1, 2, 3, 4] rfl ?_
    refine ih _ (by omega) (fun h9 h1 h2 => ?_)
    simp only [upd]
    split
    · next e => rw [e]; rfl
    · exact hg h9 (by omega) h2
set_option maxHeartbeats 4000000 in
set_option maxRecDepth 100000 in
theorem c_trFo {κ : hz_C} {z : Nat} {M : hz_M} {t : Nat} {bl : List bk_B} {tip : Nat} {en : List en_E} (h : trQ M t bl tip en) (ht8 : 63 ≤ t) (htz : t + 13 ≤ z) {a nl : Nat} {fl : Nat → Int32} (hL : M a = .inl (0, nl, .inl fl)) (ha8 : 8 ≤ a) (haz : a < z) (hnl : nl < 2 ^ 29) (hao : a < t ∨ t + 13 ≤ a ∨ a = t + 11) {x : Nat} (hx : x < bl.length) (hxl : eH en x < nl) : hz_Mt κ xX10_follow 0 0 0 [.ref t, .int (nI x), .ref a] z M (fun r z2 M2 => some (.int (nI (eH en x))) = r ∧ z = z2 ∧ ∃ g : Nat → Int32, (∀ h, h ≤ eH en x → g h = nI (chE en x h)) ∧ va_up M a (.inl (0, nl, .inl g)) = M2) := by
  refine hz_ent (lo := [(0, .ref t), (1, .int (nI x)), (2, .ref a)]) (by decide) (Nat.le_of_ble_eq_true rfl) rfl ?_
  obtain ⟨hT, hrw, ⟨fb, fht, ftm, fbi, hfb, hfht, hftm, hfbi, hEX⟩, hl113, hlen, hen, hst, hwf, htip⟩ := id h
  obtain ⟨hO1, hle1, hoff1, f1, g1, hf1, hg1, hX1⟩ := id hrw
  rw [List.length_map] at hO1 hle1
  have hxe := hwf.ht (k := x) (by omega)
  refine hz_iloadn (pc := 0) 1 (hz_dec kX10_follow 0 rfl) rfl ?_
  refine hz_z_lt (pc := 1) (tgt := 26) (hz_dec kX10_follow 1 rfl) (by decide) (by omega) ?_
  refine hz_iloadn (pc := 4) 1 (hz_dec kX10_follow 2 rfl) rfl ?_
  refine hz_aloadn (pc := 5) 0 (hz_dec kX10_follow 3 rfl) rfl ?_
  refine hz_get (pc := 6) (hz_dec kX10_follow 4 rfl) fo_X10_14 hT (by omega) (by omega) rfl ?_
  refine hz_get (pc := 9) (hz_dec kX10_follow 5 rfl) fo_X10_54 hO1 (by omega) (by omega) rfl ?_
  refine hz_n_ge (pc := 12) (tgt := 26) (hz_dec kX10_follow 6 rfl) (by decide) (by omega) (by omega) (fun h1 => ?_) (fun h1 => ?_)
  · skip
    exact absurd h1 (by omega)
  · skip
    refine hz_aloadn (pc := 15) 0 (hz_dec kX10_follow 7 rfl) rfl ?_
    refine hz_get (pc := 16) (hz_dec kX10_follow 8 rfl) fo_X10_28 hT (by omega) (by omega) rfl ?_
    refine hz_iloadn (pc := 19) 1 (hz_dec kX10_follow 9 rfl) rfl ?_
    refine hz_iald (pc := 20) (j := x) (hz_dec kX10_follow 10 rfl) hfht (by omega) (by omega) rfl (by omega) (by decide) ?_
    refine hz_eqi (pc := 21) (hEX (x) (by omega)).2.1 ?_
    refine hz_aloadn (pc := 21) 2 (hz_dec kX10_follow 11 rfl) rfl ?_
    refine hz_alen (pc := 22) (hz_dec kX10_follow 12 rfl) hL (by decide) ha8 haz ?_
    refine hz_n_lt (pc := 23) (tgt := 28) (hz_dec kX10_follow 13 rfl) (by decide) (by omega) (by omega) (fun h2 => ?_) (fun h2 => ?_)
    · skip
      refine hz_iloadn (pc := 28) 1 (hz_dec kX10_follow 16 rfl) rfl ?_
      refine hz_istoren (pc := 29) (i := 3) (lo2 := [(3, .int (nI x)), (0, .ref t), (1, .int (nI x)), (2, .ref a)]) (hz_dec kX10_follow 17 rfl) rfl (by decide) rfl ?_
      refine hz_aloadn (pc := 30) 1 (hz_dec kX10_follow 18 rfl) rfl ?_
      refine hz_get (pc := 31) (hz_dec kX10_follow 19 rfl) fo_X10_28 hT (by omega) (by omega) rfl ?_
      refine hz_iloadn (pc := 34) 2 (hz_dec kX10_follow 20 rfl) rfl ?_
      refine hz_iald (pc := 35) (j := x) (hz_dec kX10_follow 21 rfl) hfht (by omega) (by omega) rfl (by omega) (by decide) ?_
      refine hz_eqi (pc := 36) (hEX (x) (by omega)).2.1 ?_
      refine hz_istore (pc := 36) (i := 4) (lo2 := [(4, .int (nI (eH en (x)))), (3, .int (nI x)), (0, .ref t), (1, .int (nI x)), (2, .ref a)]) (hz_dec kX10_follow 22 rfl) (by decide) rfl ?_
      refine hz_pick (pc := 38) [0, 1, 2, 3, 4] rfl ?_
      refine hz_mem (pc := 38) (hz_upid hL).symm ?_
      have q := c_trFo_l h ht8 htz hL ha8 haz hnl hao hx hxl (κ := κ) (eH en x) fl (Nat.le_refl _) (fun h9 h1 h2 => absurd h1 (by omega))
      rw [Nat.sub_self] at q
      exact q
    · skip
      exact absurd hxl (by omega)
