/-! messages of hashes: TOLD, GET -/
def ksq (S : ks_S) (q : mq_S) : ks_S := (ksB S, ksT S, ksN S, ksF S, ksD S, ksP S, ksL S, q)
theorem ksq_I {S : ks_S} {q : mq_S} (h : ksI S) : ksI (ksq S q) := h
theorem kcR.ml {M M2 : hz_M} {z nb nn v tl : Nat} {tr now fr kn rc rf up : Int32} {dl : Nat → Nat} {ll : Nat} {S : ks_S} {s : mq_S} (h : kcR M z nb nn v tl tr now fr kn rc rf up dl ll S) (hnb : 63 ≤ nb) (e : ∀ q, (q < 45 ∨ 53 ≤ q) → ¬ q = 57 → M2 q = M q) (hml : mlR M2 nn now s dl ll fr kn) : kcR M2 z nb nn v tl tr now fr kn rc rf up dl ll (ksq S s) := by
  obtain ⟨hH, hNs, hN, ⟨gD, hD, hDX⟩, hT, hc, hp, hL, hJ, -, ⟨g53, h53⟩, ⟨L58, h58⟩, g61, h61⟩ := h
  exact ⟨(e 8 (by omega) (by omega)).trans hH, (by obtain ⟨f9, q1, q2⟩ := hNs; exact ⟨f9, (e 55 (by omega) (by omega)).trans q1, q2⟩), (e nb (by omega) (by omega)).trans hN, ⟨gD, (e _ (by omega) (by omega)).trans hD, hDX⟩, hT.fr (fun q q1 q2 => e q (by omega) (by omega)), hc.fr (fun q q1 q2 => e q (by omega) (by omega)), hp.fr (fun q q1 q2 => e q (by omega) (by omega)), hL.fr (fun q q1 q2 => e q (by omega) (by omega)), hJ.al (fun q q1 q2 => e q (by omega) (by omega)), hml, ⟨_, (e 53 (by omega) (by omega)).trans h53⟩, ⟨_, h58.fr (fun q q1 q2 => e q (by omega) (by omega))⟩, _, (e 61 (by omega) (by omega)).trans h61⟩
/-- hash i of a message -/
def hsI (l : by_L) (i : Nat) : by_L := subL l (32 * i) 32
/-- a hash is told that is not known -/
def tdN (bl : List bk_B) (l : by_L) (n : Nat) : Bool := decide (fsI (fun i => decide (¬ blF bl (hsI l i) < bl.length)) n < n)
def tdQ (now : Int32) (v : Nat) (fr : Int32) (d : Nat) (S : ks_S) (l : by_L) (n : Nat) : mq_S := if tdN (ksB S) l n = true then sd1 now (nI v) fr (nI 2) d (akT (ksB S) (enB (ksB S)) (ksT S)) (ksQ S) else ksQ S
/-- the blocks that are asked for -/
def gtQ (now : Int32) (v : Nat) (fr : Int32) (d : Nat) (bl : List bk_B) (l : by_L) : Nat → mq_S → mq_S
  | 0, s => s
  | i + 1, s => if blF bl (hsI l i) < bl.length then sd1 now (nI v) fr (nI 5) d (bBy bl (blF bl (hsI l i))) (gtQ now v fr d bl l i s) else gtQ now v fr d bl l i s
set_option maxHeartbeats 4000000 in
set_option maxRecDepth 100000 in
theorem c_hTold_l {κ : hz_C} {z nb nn v tl : Nat} {tr now fr kn rc rf : Int32} {dl : Nat → Nat} (hnb : 63 ≤ nb) (hnbz : nb + 34 ≤ z) (hnn : nn ≤ 6) (hvn : v < nn) {d : Nat} (hto : (∃ b, b < nn ∧ fr = nI b ∧ d = dl (6 * v + b)) ∨ (fr < 0 ∧ d = 0)) {M : hz_M} {S : ks_S} {l : by_L} (hR : kcR M z nb nn v tl tr now fr kn rc rf (nI 1) dl l.length S) (hI : ksI S) (hl4 : l.length ≤ 4000) {gl : Nat → Int32} (hgl : M 53 = .inl (1, 4000, .inl gl)) (hgA : isA gl 0 l) {g57 : Nat → Int32} (h57 : M 57 = .inl (1, 1280, .inl g57)) {n : Nat} (hn : n ≤ 16) (hnl : 32 * n = l.length) : ∀ k i, k = n - i → i ≤ n → (∀ j, j < i → decide (¬ blF (ksB S) (hsI l j) < (ksB S).length) = false) → hz_W κ xX11_hearTold 4 0 0 (fun r z2 M2 => none = r ∧ z = z2 ∧ frS [(45, 53), (57, 58)] M M2 ∧ kcR M2 z nb nn v tl tr now fr kn rc rf (nI 1) dl l.length (ksq S (tdQ now v fr d S l n)) ∧ ∃ g : Nat → Int32, M2 57 = .inl (1, 1280, .inl g)) 0 0 2 [(3, .int (nI i)), (0, .ref 8), (1, .ref nb), (2, .int (nI n))] [] z M := by
  intro k
  induction k using Nat.strongRecOn with
  | ind k ih =>
  intro i hk hi hno
  obtain ⟨hH, hNs, hN, ⟨gD, hD, hDX⟩, hT, hc, hp, hL, hJ, hml, ⟨g53, h53⟩, ⟨L58, h58⟩, g61, h61⟩ := id hR
  obtain ⟨i1, i2, i3, i4, i5⟩ := id hI
  have hz63 : 63 ≤ z := by omega
  have htop := i1.top
  have hTO := hT.1
  refine hz_iloadn (pc := 2) 0 (hz_dec kX11_hearTold 2 rfl) rfl ?_
  refine hz_iloadn (pc := 3) 3 (hz_dec kX11_hearTold 3 rfl) rfl ?_
  refine hz_n_ge (pc := 4) (tgt := 40) (hz_dec kX11_hearTold 4 rfl) (by decide) (by omega) (by omega) (fun h1 => ?_) (fun h1 => ?_)
  · skip
    have e : i = n := by omega
    have eQ : tdQ now v fr d S l n = ksQ S := by unfold tdQ tdN; rw [fsI_no (p := fun i => decide (¬ blF (ksB S) (hsI l i) < (ksB S).length)) n (fun j hj => hno j (by omega)), if_neg (by rw [decide_eq_false (by omega)]; decide)]
    exact hz_vret (pc := 40) (hz_dec kX11_hearTold 21 rfl) rfl ⟨rfl, rfl, frS.rf, by rw [eQ]; exact hR, _, h57⟩
  · skip
    have hAi : isA gl (32 * i) (hsI l i) := by have q := isA_sub (i := 32 * i) (n := 32) hgA (by omega); rw [Nat.zero_add] at q; exact q
    refine hz_aloadn (pc := 7) 2 (hz_dec kX11_hearTold 5 rfl) rfl ?_
    refine hz_get (pc := 8) (hz_dec kX11_hearTold 6 rfl) fo_X11_104 hN (by omega) (by omega) rfl ?_
    refine hz_aloadn (pc := 11) 1 (hz_dec kX11_hearTold 7 rfl) rfl ?_
    refine hz_get (pc := 12) (hz_dec kX11_hearTold 8 rfl) fo_X11_62 hH (by omega) (by omega) rfl ?_
    refine hz_get (pc := 15) (hz_dec kX11_hearTold 9 rfl) fo_X11_450 hml.1 (by omega) (by omega) rfl ?_
    refine hz_bipush (pc := 18) (v := nI 32) (hz_dec kX11_hearTold 10 rfl) (by decide) ?_
    refine hz_iloadn (pc := 20) 0 (hz_dec kX11_hearTold 11 rfl) rfl ?_
    refine hz_mulN (pc := 21) (hz_dec kX11_hearTold 12 rfl) ?_
    refine hz_xV (pc := 22) (a := nb + 21) (As := [.ref 53, .int (nI (32 * i))]) (st := []) (hz_dec kX11_hearTold 13 rfl) co_X11_528 im_X10_indexOf se_X10_indexOf rfl hTO (by omega) (by omega) (c_trIx hT (by omega) (by omega) hgl (by decide) (by omega) (by decide) hAi (subL_len _ _ _) (by omega)) rfl (by decide) ⟨Nat.le_refl _, Nat.le_refl _⟩ (Nat.le_of_ble_eq_true rfl) rfl ?_
    by_cases ck : blF (ksB S) (hsI l i) < (ksB S).length
    · skip
      refine hz_eqi (pc := 25) (show _ = nI (blF (ksB S) (hsI l i)) from if_pos ck) ?_
      refine hz_z_ge (pc := 25) (tgt := 34) (hz_dec kX11_hearTold 14 rfl) (by decide) (by omega) ?_
      refine hz_incN (pc := 34) (i := 3) (lo2 := [(3, .int (nI (i + 1))), (0, .ref 8), (1, .ref nb), (2, .int (nI n))]) 0 (hz_dec kX11_hearTold 19 rfl) rfl (by decide) rfl ?_
      refine hz_goto (pc := 37) (tgt := 2) (hz_dec kX11_hearTold 20 rfl) (by decide) ?_
      refine hz_pick (pc := 2) [0, 1, 2, 3] rfl ?_
      refine ih (n - (i + 1)) (by omega) (i + 1) rfl (by omega) (fun j hj => ?_)
      rcases (show j = i ∨ j < i by omega) with e | c
      · rw [e]; exact decide_eq_false (fun q => q ck)
      · exact hno j c
    · skip
      refine hz_eqi (pc := 25) (show _ = (-1 : Int32) from if_neg ck) ?_
      refine hz_if_ge (pc := 25) (tgt := 34) (hz_dec kX11_hearTold 14 rfl) (by decide) (fun h2 => ?_) (fun h2 => ?_)
      · skip
        exact absurd h2 (by decide)
      · skip
        have eQ : tdQ now v fr d S l n = sd1 now (nI v) fr (nI 2) d (akT (ksB S) (enB (ksB S)) (ksT S)) (ksQ S) := by unfold tdQ tdN; rw [fsI_at (p := fun i => decide (¬ blF (ksB S) (hsI l i) < (ksB S).length)) (i := i) (decide_eq_true ck) hno n h1, if_pos (decide_eq_true h1)]
        refine hz_aloadn (pc := 28) 1 (hz_dec kX11_hearTold 15 rfl) rfl ?_
        refine hz_aloadn (pc := 29) 2 (hz_dec kX11_hearTold 16 rfl) rfl ?_
        refine hz_callV (pc := 30) (a := 8) (As := [.ref nb]) (st := []) (hz_dec kX11_hearTold 17 rfl) co_X11_495 im_X11_sendAsk se_X11_sendAsk rfl hH (by omega) (by omega) (c_sAsk hz63 hH hnn hN hnb hnbz hvn hT hml hto h57) rfl (by decide) ⟨Nat.le_refl _, Nat.le_refl _⟩ (Nat.le_of_ble_eq_true rfl) rfl (fun r9 z9 M3 hp9 => ?_)
        obtain ⟨rfl, rfl, hf3, h573, hml3⟩ := hp9
        exact hz_vret (pc := 33) (hz_dec kX11_hearTold 18 rfl) rfl ⟨rfl, rfl, hf3, by rw [eQ]; exact hR.ml hnb (fun q q1 q2 => hf3.at2 (by omega)) hml3, h573⟩
set_option maxHeartbeats 4000000 in
set_option maxRecDepth 100000 in
theorem c_hTold {κ : hz_C} {z nb nn v tl : Nat} {tr now fr kn rc rf : Int32} {dl : Nat → Nat} (hnb : 63 ≤ nb) (hnbz : nb + 34 ≤ z) (hnn : nn ≤ 6) (hvn : v < nn) {d : Nat} (hto : (∃ b, b < nn ∧ fr = nI b ∧ d = dl (6 * v + b)) ∨ (fr < 0 ∧ d = 0)) {M : hz_M} {S : ks_S} {l : by_L} (hR : kcR M z nb nn v tl tr now fr kn rc rf (nI 1) dl l.length S) (hI : ksI S) (hl4 : l.length ≤ 4000) {gl : Nat → Int32} (hgl : M 53 = .inl (1, 4000, .inl gl)) (hgA : isA gl 0 l) {g57 : Nat → Int32} (h57 : M 57 = .inl (1, 1280, .inl g57)) {n : Nat} (hn : n ≤ 16) (hnl : 32 * n = l.length) : hz_Mt κ xX11_hearTold 4 0 0 [.ref 8, .ref nb, .int (nI n)] z M (fun r z2 M2 => none = r ∧ z = z2 ∧ frS [(45, 53), (57, 58)] M M2 ∧ kcR M2 z nb nn v tl tr now fr kn rc rf (nI 1) dl l.length (ksq S (tdQ now v fr d S l n)) ∧ ∃ g : Nat → Int32, M2 57 = .inl (1, 1280, .inl g)) := by
  refine hz_ent (lo := [(0, .ref 8), (1, .ref nb), (2, .int (nI n))]) (by decide) (Nat.le_of_ble_eq_true rfl) rfl ?_
  refine hz_iconst (pc := 0) (v := nI 0) (hz_dec kX11_hearTold 0 rfl) (by decide) ?_
  refine hz_istoren (pc := 1) (i := 3) (lo2 := [(3, .int (nI 0)), (0, .ref 8), (1, .ref nb), (2, .int (nI n))]) (hz_dec kX11_hearTold 1 rfl) rfl (by decide) rfl ?_
  refine hz_pick (pc := 2) [0, 1, 2, 3] rfl ?_
  exact c_hTold_l hnb hnbz hnn hvn hto hR hI hl4 hgl hgA h57 hn hnl n 0 rfl (Nat.zero_le _) (fun j hj => absurd hj (by omega))
set_option maxHeartbeats 4000000 in
set_option maxRecDepth 100000 in
theorem c_hGet_l {κ : hz_C} {z nb nn v tl : Nat} {tr now fr kn rc rf : Int32} {dl : Nat → Nat} (hnb : 63 ≤ nb) (hnbz : nb + 34 ≤ z) (hnn : nn ≤ 6) (hvn : v < nn) {d : Nat} (hto : (∃ b, b < nn ∧ fr = nI b ∧ d = dl (6 * v + b)) ∨ (fr < 0 ∧ d = 0)) {M : hz_M} {S : ks_S} {l : by_L} (hR : kcR M z nb nn v tl tr now fr kn rc rf (nI 1) dl l.length S) (hI : ksI S) (hl4 : l.length ≤ 4000) {gl : Nat → Int32} (hgl : M 53 = .inl (1, 4000, .inl gl)) (hgA : isA gl 0 l) {n : Nat} (hn : n ≤ 16) (hnl : 32 * n = l.length) : ∀ k i M2, k = n - i → i ≤ n → frS [(45, 53)] M M2 → mlR M2 nn now (gtQ now v fr d (ksB S) l i (ksQ S)) dl l.length fr kn → hz_W κ xX11_hearGet 4 0 0 (fun r z2 M2 => none = r ∧ z = z2 ∧ frS [(45, 53)] M M2 ∧ kcR M2 z nb nn v tl tr now fr kn rc rf (nI 1) dl l.length (ksq S (gtQ now v fr d (ksB S) l n (ksQ S)))) 0 0 11 [(4, .int (nI i)), (0, .ref 8), (1, .ref nb), (2, .int (nI n)), (3, .ref (nb + 21 + 1))] [] z M2 := by
  intro k
  induction k using Nat.strongRecOn with
  | ind k ih =>
  intro i M2 hk hi hfr hml2
  obtain ⟨hH, hNs, hN, ⟨gD, hD, hDX⟩, hT, hc, hp, hL, hJ, hml, ⟨g53, h53⟩, ⟨L58, h58⟩, g61, h61⟩ := id hR
  obtain ⟨i1, i2, i3, i4, i5⟩ := id hI
  have hz63 : 63 ≤ z := by omega
  have htop := i1.top
  have hTO := hT.1
  have hH2 := (hfr.at1 (q := 8) (by omega)).trans hH
  have hN2 := (hfr.at1 (q := nb) (by omega)).trans hN
  have hT2 := hT.fr (M2 := M2) (fun q q1 q2 => hfr.at1 (by omega))
  have hTO2 := hT2.1
  have hgl2 := (hfr.at1 (q := 53) (by omega)).trans hgl
  obtain ⟨-, ⟨hrO, hrle, hroff, f1, g1, hf1, hg1, hrX⟩, -⟩ := id hT2
  rw [List.length_map] at hrO hrle hroff
  generalize hs : gtQ now v fr d (ksB S) l i (ksQ S) = s at hml2
  refine hz_iload (pc := 11) 0 (hz_dec kX11_hearGet 6 rfl) rfl ?_
  refine hz_iloadn (pc := 13) 3 (hz_dec kX11_hearGet 7 rfl) rfl ?_
  refine hz_n_ge (pc := 14) (tgt := 86) (hz_dec kX11_hearGet 8 rfl) (by decide) (by omega) (by omega) (fun h1 => ?_) (fun h1 => ?_)
  · skip
    have e : i = n := by omega
    exact hz_vret (pc := 86) (hz_dec kX11_hearGet 42 rfl) rfl ⟨rfl, rfl, hfr, hR.ml hnb (fun q q1 q2 => hfr.at1 (by omega)) (by rw [show gtQ now v fr d (ksB S) l n (ksQ S) = s from e ▸ hs]; exact hml2)⟩
  · skip
    have hAi : isA gl (32 * i) (hsI l i) := by have q := isA_sub (i := 32 * i) (n := 32) hgA (by omega); rw [Nat.zero_add] at q; exact q
    refine hz_aloadn (pc := 17) 2 (hz_dec kX11_hearGet 9 rfl) rfl ?_
    refine hz_get (pc := 18) (hz_dec kX11_hearGet 10 rfl) fo_X11_104 hN2 (by omega) (by omega) rfl ?_
    refine hz_aloadn (pc := 21) 1 (hz_dec kX11_hearGet 11 rfl) rfl ?_
    refine hz_get (pc := 22) (hz_dec kX11_hearGet 12 rfl) fo_X11_62 hH2 (by omega) (by omega) rfl ?_
    refine hz_get (pc := 25) (hz_dec kX11_hearGet 13 rfl) fo_X11_450 hml2.1 (by omega) (by omega) rfl ?_
    refine hz_bipush (pc := 28) (v := nI 32) (hz_dec kX11_hearGet 14 rfl) (by decide) ?_
    refine hz_iload (pc := 30) 0 (hz_dec kX11_hearGet 15 rfl) rfl ?_
    refine hz_mulN (pc := 32) (hz_dec kX11_hearGet 16 rfl) ?_
    refine hz_xV (pc := 33) (a := nb + 21) (As := [.ref 53, .int (nI (32 * i))]) (st := []) (hz_dec kX11_hearGet 17 rfl) co_X11_528 im_X10_indexOf se_X10_indexOf rfl hTO2 (by omega) (by omega) (c_trIx hT2 (by omega) (by omega) hgl2 (by decide) (by omega) (by decide) hAi (subL_len _ _ _) (by omega)) rfl (by decide) ⟨Nat.le_refl _, Nat.le_refl _⟩ (Nat.le_of_ble_eq_true rfl) rfl ?_
    by_cases ck : blF (ksB S) (hsI l i) < (ksB S).length
    · skip
      refine hz_eqi (pc := 36) (show _ = nI (blF (ksB S) (hsI l i)) from if_pos ck) ?_
      generalize hx : blF (ksB S) (hsI l i) = x at *
      refine hz_istore (pc := 36) (i := 5) (lo2 := [(5, .int (nI x)), (4, .int (nI i)), (0, .ref 8), (1, .ref nb), (2, .int (nI n)), (3, .ref (nb + 21 + 1))]) (hz_dec kX11_hearGet 18 rfl) (by decide) rfl ?_
      refine hz_iload (pc := 38) 0 (hz_dec kX11_hearGet 19 rfl) rfl ?_
      refine hz_z_lt (pc := 40) (tgt := 80) (hz_dec kX11_hearGet 20 rfl) (by decide) (by omega) ?_
      have hA : isA f1 (offL ((ksB S).map Prod.fst) x) (bBy (ksB S) x) := by have q := hrX.2 x (by rw [List.length_map]; exact ck); rw [rowL_bl] at q; exact q
      have hom := offL_mono ((ksB S).map Prod.fst) (ksB S).length (x + 1) (by omega)
      have hos : offL ((ksB S).map Prod.fst) (x + 1) = offL ((ksB S).map Prod.fst) x + (bBy (ksB S) x).length := by simp only [offL]; rw [rowL_bl]
      have hln := (i1.2.2.2.2.2.1 x ck).len
      refine hz_aloadn (pc := 43) 2 (hz_dec kX11_hearGet 21 rfl) rfl ?_
      refine hz_get (pc := 44) (hz_dec kX11_hearGet 22 rfl) fo_X11_62 hH2 (by omega) (by omega) rfl ?_
      refine hz_aloadn (pc := 47) 3 (hz_dec kX11_hearGet 23 rfl) rfl ?_
      refine hz_get (pc := 48) (hz_dec kX11_hearGet 24 rfl) fo_X11_514 hN2 (by omega) (by omega) rfl ?_
      refine hz_aloadn (pc := 51) 2 (hz_dec kX11_hearGet 25 rfl) rfl ?_
      refine hz_get (pc := 52) (hz_dec kX11_hearGet 26 rfl) fo_X11_62 hH2 (by omega) (by omega) rfl ?_
      refine hz_get (pc := 55) (hz_dec kX11_hearGet 27 rfl) fo_X11_299 hml2.1 (by omega) (by omega) rfl ?_
      refine hz_iconst (pc := 58) (v := nI 5) (hz_dec kX11_hearGet 28 rfl) (by decide) ?_
      refine hz_aloadn (pc := 59) 5 (hz_dec kX11_hearGet 29 rfl) rfl ?_
      refine hz_get (pc := 60) (hz_dec kX11_hearGet 30 rfl) fo_X11_225 hrO (by omega) (by omega) rfl ?_
      refine hz_aloadn (pc := 63) 5 (hz_dec kX11_hearGet 31 rfl) rfl ?_
      refine hz_get (pc := 64) (hz_dec kX11_hearGet 32 rfl) fo_X11_228 hrO (by omega) (by omega) rfl ?_
      refine hz_iload (pc := 67) 0 (hz_dec kX11_hearGet 33 rfl) rfl ?_
      refine hz_iald (pc := 69) (j := x) (hz_dec kX11_hearGet 34 rfl) hg1 (by omega) (by omega) rfl (by omega) (by omega) ?_
      refine hz_eqi (pc := 70) (hrX.1 (x) (by rw [List.length_map]; omega)) ?_
      refine hz_aloadn (pc := 70) 5 (hz_dec kX11_hearGet 35 rfl) rfl ?_
      refine hz_iload (pc := 71) 0 (hz_dec kX11_hearGet 36 rfl) rfl ?_
      refine hz_xV (pc := 73) (a := nb + 21 + 1) (As := [.int (nI x)]) (st := [.int (nI (offL ((ksB S).map Prod.fst) (x))), .ref (nb + 21 + 1 + 1), .int (nI 5), .int fr, .int (nI v), .ref 45]) (hz_dec kX11_hearGet 37 rfl) co_X11_221 im_X7_lengthOf se_X7_lengthOf rfl hrO (by omega) (by omega) (c_lenOf hT2.2.1 (by omega) (by omega) (by decide) (by decide) (by rw [List.length_map]; exact ck)) rfl (by decide) ⟨Nat.le_refl _, Nat.le_refl _⟩ (Nat.le_of_ble_eq_true rfl) rfl ?_
      refine hz_eqi (pc := 76) (show _ = nI (bBy (ksB S) x).length by rw [rowL_bl]) ?_
      have hd9 : d ≤ 9 := by rcases hto with ⟨b, q1, q2, q3⟩ | ⟨q1, q2⟩; obtain ⟨fd, -, hdX⟩ := id hml2.2.2; rw [q3]; exact (hdX _ (by omega)).2; omega
      have hdl : hz_Mt κ xX5_delayOf 0 0 0 [.ref 45, .int (nI v), .int fr] z M2 (hz_ex (some (.int (nI d))) z M2) := by
        rcases hto with ⟨b, q1, q2, q3⟩ | ⟨q1, q2⟩
        · rw [q2, q3]; exact c_dly hz63 hml2.1 hnn hml2.2.2 hvn q1
        · rw [q2]; exact c_dly0 hz63 hml2.1 hnn hml2.2.2 hvn q1
      refine hz_callV (pc := 76) (a := 45) (As := [.int (nI v), .int fr, .int (nI 5), .ref (nb + 21 + 1 + 1), .int (nI (offL ((ksB S).map Prod.fst) (x))), .int (nI ((bBy (ksB S) x).length))]) (st := []) (hz_dec kX11_hearGet 38 rfl) co_X11_309 im_X5_send se_X5_send rfl hml2.1 (by omega) (by omega) (c_send hz63 hml2.1 hnn hml2.2.1 hf1 (by omega) (by omega) (by omega) (by decide) hA (by omega) (by omega) (kd := nI 5) hdl hd9) rfl (by decide) ⟨Nat.le_refl _, Nat.le_refl _⟩ (Nat.le_of_ble_eq_true rfl) rfl (fun r9 z9 M3 hp9 => ?_)
      obtain ⟨rfl, rfl, hf3, hO3, hQ3⟩ := hp9
      have hml3 : mlR M3 nn now (sd1 now (nI v) fr (nI 5) d (bBy (ksB S) x) s) dl l.length fr kn := ⟨hO3, hQ3, by obtain ⟨fd, q1, q2⟩ := id hml2.2.2; exact ⟨fd, (hf3.at1 (q := 54) (by omega)).trans q1, q2⟩⟩
      refine hz_pop (pc := 79) (hz_dec kX11_hearGet 39 rfl) rfl ?_
      refine hz_incN (pc := 80) (i := 4) (lo2 := [(4, .int (nI (i + 1))), (5, .int (nI x)), (0, .ref 8), (1, .ref nb), (2, .int (nI n)), (3, .ref (nb + 21 + 1))]) 1 (hz_dec kX11_hearGet 40 rfl) rfl (by decide) rfl ?_
      refine hz_goto (pc := 83) (tgt := 11) (hz_dec kX11_hearGet 41 rfl) (by decide) ?_
      refine hz_pick (pc := 11) [0, 2, 3, 4, 5] rfl ?_
      refine ih (n - (i + 1)) (by omega) (i + 1) M3 rfl (by omega) (hfr.tr hf3) ?_
      unfold gtQ
      rw [hx, if_pos ck, hs]
      exact hml3
    · skip
      refine hz_eqi (pc := 36) (show _ = (-1 : Int32) from if_neg ck) ?_
      refine hz_istore (pc := 36) (i := 5) (lo2 := [(5, .int (-1)), (4, .int (nI i)), (0, .ref 8), (1, .ref nb), (2, .int (nI n)), (3, .ref (nb + 21 + 1))]) (hz_dec kX11_hearGet 18 rfl) (by decide) rfl ?_
      refine hz_iload (pc := 38) 0 (hz_dec kX11_hearGet 19 rfl) rfl ?_
      refine hz_if_lt (pc := 40) (tgt := 80) (hz_dec kX11_hearGet 20 rfl) (by decide) (fun h2 => ?_) (fun h2 => ?_)
      · skip
        refine hz_incN (pc := 80) (i := 4) (lo2 := [(4, .int (nI (i + 1))), (5, .int (-1)), (0, .ref 8), (1, .ref nb), (2, .int (nI n)), (3, .ref (nb + 21 + 1))]) 1 (hz_dec kX11_hearGet 40 rfl) rfl (by decide) rfl ?_
        refine hz_goto (pc := 83) (tgt := 11) (hz_dec kX11_hearGet 41 rfl) (by decide) ?_
        refine hz_pick (pc := 11) [0, 2, 3, 4, 5] rfl ?_
        refine ih (n - (i + 1)) (by omega) (i + 1) M2 rfl (by omega) hfr ?_
        unfold gtQ
        rw [if_neg ck, hs]
        exact hml2
      · skip
        exact absurd (by decide) h2
set_option maxHeartbeats 4000000 in
set_option maxRecDepth 100000 in
theorem c_hGet {κ : hz_C} {z nb nn v tl : Nat} {tr now fr kn rc rf : Int32} {dl : Nat → Nat} (hnb : 63 ≤ nb) (hnbz : nb + 34 ≤ z) (hnn : nn ≤ 6) (hvn : v < nn) {d : Nat} (hto : (∃ b, b < nn ∧ fr = nI b ∧ d = dl (6 * v + b)) ∨ (fr < 0 ∧ d = 0)) {M : hz_M} {S : ks_S} {l : by_L} (hR : kcR M z nb nn v tl tr now fr kn rc rf (nI 1) dl l.length S) (hI : ksI S) (hl4 : l.length ≤ 4000) {gl : Nat → Int32} (hgl : M 53 = .inl (1, 4000, .inl gl)) (hgA : isA gl 0 l) {n : Nat} (hn : n ≤ 16) (hnl : 32 * n = l.length) : hz_Mt κ xX11_hearGet 4 0 0 [.ref 8, .ref nb, .int (nI n)] z M (fun r z2 M2 => none = r ∧ z = z2 ∧ frS [(45, 53)] M M2 ∧ kcR M2 z nb nn v tl tr now fr kn rc rf (nI 1) dl l.length (ksq S (gtQ now v fr d (ksB S) l n (ksQ S)))) := by
  refine hz_ent (lo := [(0, .ref 8), (1, .ref nb), (2, .int (nI n))]) (by decide) (Nat.le_of_ble_eq_true rfl) rfl ?_
  obtain ⟨hH, hNs, hN, ⟨gD, hD, hDX⟩, hT, hc, hp, hL, hJ, hml, ⟨g53, h53⟩, ⟨L58, h58⟩, g61, h61⟩ := id hR
  obtain ⟨i1, i2, i3, i4, i5⟩ := id hI
  have hz63 : 63 ≤ z := by omega
  have htop := i1.top
  have hTO := hT.1
  refine hz_aloadn (pc := 0) 1 (hz_dec kX11_hearGet 0 rfl) rfl ?_
  refine hz_get (pc := 1) (hz_dec kX11_hearGet 1 rfl) fo_X11_104 hN (by omega) (by omega) rfl ?_
  refine hz_get (pc := 4) (hz_dec kX11_hearGet 2 rfl) fo_X11_217 hTO (by omega) (by omega) rfl ?_
  refine hz_astoren (pc := 7) (i := 3) (lo2 := [(3, .ref (nb + 21 + 1)), (0, .ref 8), (1, .ref nb), (2, .int (nI n))]) (hz_dec kX11_hearGet 3 rfl) rfl (by decide) rfl ?_
  refine hz_iconst (pc := 8) (v := nI 0) (hz_dec kX11_hearGet 4 rfl) (by decide) ?_
  refine hz_istore (pc := 9) (i := 4) (lo2 := [(4, .int (nI 0)), (3, .ref (nb + 21 + 1)), (0, .ref 8), (1, .ref nb), (2, .int (nI n))]) (hz_dec kX11_hearGet 5 rfl) (by decide) rfl ?_
  refine hz_pick (pc := 11) [0, 2, 3, 4, 1] rfl ?_
  exact c_hGet_l hnb hnbz hnn hvn hto hR hI hl4 hgl hgA hn hnl n 0 M rfl (Nat.zero_le _) frS.rf hml
set_option maxHeartbeats 4000000 in
set_option maxRecDepth 100000 in
theorem c_rTold_l {κ : hz_C} {z B nn v : Nat} {now fr : Int32} {dl : Nat → Nat} (hnn : nn ≤ 6) (hvn : v < nn) {d : Nat} (hto : (∃ b, b < 6 ∧ fr = nI b ∧ d = dl (6 * v + b)) ∨ (fr < 0 ∧ d = 0)) {M : hz_M} {S : ks_S} {l : by_L} (hk0 : md_k B M z) (hE : mdE M B) (hmg : mgR M B nn now dl (ksQ S)) (hmn : mnB M B v (ksB S) (enB (ksB S)) (ksT S)) (hI : ksI S) (hl4 : l.length ≤ 4000) (h78 : isA (fA M B 78) 0 l) (h92 : fdB M B 92 = some (.int (nI l.length))) {n : Nat} (hn : n ≤ 16) (hnl : 32 * n = l.length) : ∀ k i, k = n - i → i ≤ n → (∀ j, j < i → decide (¬ blF (ksB S) (hsI l j) < (ksB S).length) = false) → hz_W κ xX12_receiveTold 4 0 0 (fun r z2 M2 => none = r ∧ z = z2 ∧ mfr B [39, 86, 87, 88] [35, 70, 71, 72, 73, 74, 75, 76, 77] M M2 ∧ mdE M2 B ∧ mgR M2 B nn now dl (tdQ now v fr d S l n)) 0 0 2 [(3, .int (nI i)), (0, .ref B), (1, .int (nI v)), (2, .int fr)] [] z M := by
  intro k
  induction k using Nat.strongRecOn with
  | ind k ih =>
  intro i hk hi hno
  obtain ⟨⟨fs, hO, hF⟩, -, -, h8, hz⟩ := id hk0
  obtain ⟨i1, i2, i3, i4, i5⟩ := id hI
  have htop := i1.top
  have hv6 : v < 6 := by omega
  have g92 : fs[92]? = some (.int (nI l.length)) := (fdB_of hO 92).symm.trans h92
  refine hz_iloadn (pc := 2) 0 (hz_dec kX12_receiveTold 2 rfl) rfl ?_
  refine hz_aloadn (pc := 3) 1 (hz_dec kX12_receiveTold 3 rfl) rfl ?_
  refine hz_get (pc := 4) (v := .int (nI (l.length))) (hz_dec kX12_receiveTold 4 rfl) fo_X12_637 hO h8 (by omega) g92 ?_
  refine hz_bipush (pc := 7) (v := nI 32) (hz_dec kX12_receiveTold 5 rfl) (by decide) ?_
  refine hz_divN (pc := 9) (hz_dec kX12_receiveTold 6 rfl) (by omega) (by decide) (by decide) ?_
  refine hz_eqi (pc := 10) (show _ = nI n by rw [show l.length / 32 = n by omega]) ?_
  refine hz_n_ge (pc := 10) (tgt := 42) (hz_dec kX12_receiveTold 7 rfl) (by decide) (by omega) (by omega) (fun h1 => ?_) (fun h1 => ?_)
  · skip
    have e : i = n := by omega
    have eQ : tdQ now v fr d S l n = ksQ S := by unfold tdQ tdN; rw [fsI_no (p := fun i => decide (¬ blF (ksB S) (hsI l i) < (ksB S).length)) n (fun j hj => hno j (by omega)), if_neg (by rw [decide_eq_false (by omega)]; decide)]
    exact hz_vret (pc := 42) (hz_dec kX12_receiveTold 24 rfl) rfl ⟨rfl, rfl, mfr.rf ⟨fs, hO, hF⟩, hE, by rw [eQ]; exact hmg⟩
  · skip
    have hAi : isA (fA M B 78) (32 * i) (hsI l i) := by have q := isA_sub (i := 32 * i) (n := 32) h78 (by omega); rw [Nat.zero_add] at q; exact q
    refine hz_aloadn (pc := 13) 1 (hz_dec kX12_receiveTold 8 rfl) rfl ?_
    refine hz_iloadn (pc := 14) 2 (hz_dec kX12_receiveTold 9 rfl) rfl ?_
    refine hz_aloadn (pc := 15) 1 (hz_dec kX12_receiveTold 10 rfl) rfl ?_
    refine hz_get (pc := 16) (v := .ref (B + 78)) (hz_dec kX12_receiveTold 11 rfl) fo_X12_255 hO h8 (by omega) (hF.2 91 (by decide) (by decide)) ?_
    refine hz_bipush (pc := 19) (v := nI 32) (hz_dec kX12_receiveTold 12 rfl) (by decide) ?_
    refine hz_iloadn (pc := 21) 0 (hz_dec kX12_receiveTold 13 rfl) rfl ?_
    refine hz_mulN (pc := 22) (hz_dec kX12_receiveTold 14 rfl) ?_
    refine hz_xV (pc := 23) (a := B) (As := [.int (nI v), .ref (B + 78), .int (nI (32 * i))]) (st := []) (hz_dec kX12_receiveTold 15 rfl) co_X12_531 im_X12_findBlock se_X12_findBlock rfl hO h8 (by omega) (c_mfB ⟨fs, hO, hF⟩ hE h8 hz hv6 (by omega) hmn.2.1 hE.a78 (by omega) (by omega) (by decide) hAi (subL_len _ _ _) (by omega)) rfl (by decide) ⟨Nat.le_refl _, Nat.le_refl _⟩ (Nat.le_of_ble_eq_true rfl) rfl ?_
    by_cases ck : blF (ksB S) (hsI l i) < (ksB S).length
    · skip
      refine hz_eqi (pc := 26) (show _ = nI (blF (ksB S) (hsI l i)) from if_pos ck) ?_
      refine hz_z_ge (pc := 26) (tgt := 36) (hz_dec kX12_receiveTold 16 rfl) (by decide) (by omega) ?_
      refine hz_incN (pc := 36) (i := 3) (lo2 := [(3, .int (nI (i + 1))), (0, .ref B), (1, .int (nI v)), (2, .int fr)]) 0 (hz_dec kX12_receiveTold 22 rfl) rfl (by decide) rfl ?_
      refine hz_goto (pc := 39) (tgt := 2) (hz_dec kX12_receiveTold 23 rfl) (by decide) ?_
      refine hz_pick (pc := 2) [0, 1, 2, 3] rfl ?_
      refine ih (n - (i + 1)) (by omega) (i + 1) rfl (by omega) (fun j hj => ?_)
      rcases (show j = i ∨ j < i by omega) with e | c
      · rw [e]; exact decide_eq_false (fun q => q ck)
      · exact hno j c
    · skip
      refine hz_eqi (pc := 26) (show _ = (-1 : Int32) from if_neg ck) ?_
      refine hz_if_ge (pc := 26) (tgt := 36) (hz_dec kX12_receiveTold 16 rfl) (by decide) (fun h2 => ?_) (fun h2 => ?_)
      · skip
        exact absurd h2 (by decide)
      · skip
        have eQ : tdQ now v fr d S l n = sd1 now (nI v) fr (nI 2) d (akT (ksB S) (enB (ksB S)) (ksT S)) (ksQ S) := by unfold tdQ tdN; rw [fsI_at (p := fun i => decide (¬ blF (ksB S) (hsI l i) < (ksB S).length)) (i := i) (decide_eq_true ck) hno n h1, if_pos (decide_eq_true h1)]
        refine hz_aloadn (pc := 29) 1 (hz_dec kX12_receiveTold 17 rfl) rfl ?_
        refine hz_iloadn (pc := 30) 2 (hz_dec kX12_receiveTold 18 rfl) rfl ?_
        refine hz_iloadn (pc := 31) 3 (hz_dec kX12_receiveTold 19 rfl) rfl ?_
        refine hz_callV (pc := 32) (a := B) (As := [.int (nI v), .int fr]) (st := []) (hz_dec kX12_receiveTold 20 rfl) co_X12_661 im_X12_ask se_X12_ask rfl hO h8 (by omega) (c_ask (to_ := fr) ⟨fs, hO, hF⟩ hE h8 hz hv6 (by omega) hmn.2.1 (by rw [enB_len]; exact Nat.le_refl _) hmn.1 i1.2.2.2.2.1 i2 i1.2.2.2.2.2.2.1 hmg.2.1 hmg.2.2 hto htop.2.1) rfl (by decide) ⟨Nat.le_refl _, Nat.le_refl _⟩ (Nat.le_of_ble_eq_true rfl) rfl (fun r9 z9 M5 hp9 => ?_)
        obtain ⟨rfl, rfl, hf5, hE5, hQ5⟩ := hp9
        exact hz_vret (pc := 35) (hz_dec kX12_receiveTold 21 rfl) rfl ⟨rfl, rfl, hf5.mono rfl rfl, hE5, by rw [eQ]; exact ⟨(hf5.2.2 1 rfl).trans hmg.1, by unfold mdD; rw [fA_m hf5 (by decide) rfl]; exact hmg.2.1, hQ5⟩⟩
set_option maxHeartbeats 4000000 in
set_option maxRecDepth 100000 in
theorem c_rTold {κ : hz_C} {z B nn v : Nat} {now fr : Int32} {dl : Nat → Nat} (hnn : nn ≤ 6) (hvn : v < nn) {d : Nat} (hto : (∃ b, b < 6 ∧ fr = nI b ∧ d = dl (6 * v + b)) ∨ (fr < 0 ∧ d = 0)) {M : hz_M} {S : ks_S} {l : by_L} (hk0 : md_k B M z) (hE : mdE M B) (hmg : mgR M B nn now dl (ksQ S)) (hmn : mnB M B v (ksB S) (enB (ksB S)) (ksT S)) (hI : ksI S) (hl4 : l.length ≤ 4000) (h78 : isA (fA M B 78) 0 l) (h92 : fdB M B 92 = some (.int (nI l.length))) {n : Nat} (hn : n ≤ 16) (hnl : 32 * n = l.length) : hz_Mt κ xX12_receiveTold 4 0 0 [.ref B, .int (nI v), .int fr] z M (fun r z2 M2 => none = r ∧ z = z2 ∧ mfr B [39, 86, 87, 88] [35, 70, 71, 72, 73, 74, 75, 76, 77] M M2 ∧ mdE M2 B ∧ mgR M2 B nn now dl (tdQ now v fr d S l n)) := by
  refine hz_ent (lo := [(0, .ref B), (1, .int (nI v)), (2, .int fr)]) (by decide) (Nat.le_of_ble_eq_true rfl) rfl ?_
  refine hz_iconst (pc := 0) (v := nI 0) (hz_dec kX12_receiveTold 0 rfl) (by decide) ?_
  refine hz_istoren (pc := 1) (i := 3) (lo2 := [(3, .int (nI 0)), (0, .ref B), (1, .int (nI v)), (2, .int fr)]) (hz_dec kX12_receiveTold 1 rfl) rfl (by decide) rfl ?_
  refine hz_pick (pc := 2) [0, 1, 2, 3] rfl ?_
  exact c_rTold_l hnn hvn hto hk0 hE hmg hmn hI hl4 h78 h92 hn hnl n 0 rfl (Nat.zero_le _) (fun j hj => absurd hj (by omega))
set_option maxHeartbeats 4000000 in
set_option maxRecDepth 100000 in
theorem c_rGet_l {κ : hz_C} {z B nn v : Nat} {now fr : Int32} {dl : Nat → Nat} (hnn : nn ≤ 6) (hvn : v < nn) {d : Nat} (hto : (∃ b, b < 6 ∧ fr = nI b ∧ d = dl (6 * v + b)) ∨ (fr < 0 ∧ d = 0)) {M : hz_M} {S : ks_S} {l : by_L} (hk0 : md_k B M z) (hE : mdE M B) (hmg : mgR M B nn now dl (ksQ S)) (hmn : mnB M B v (ksB S) (enB (ksB S)) (ksT S)) (hI : ksI S) (hl4 : l.length ≤ 4000) (h78 : isA (fA M B 78) 0 l) (h92 : fdB M B 92 = some (.int (nI l.length))) {n : Nat} (hn : n ≤ 16) (hnl : 32 * n = l.length) : ∀ k i M2, k = n - i → i ≤ n → mfr B [39, 86, 87, 88] [35, 70, 71, 72, 73, 74, 75, 76, 77] M M2 → mdE M2 B → mgR M2 B nn now dl (gtQ now v fr d (ksB S) l i (ksQ S)) → hz_W κ xX12_receiveGet 4 0 0 (fun r z2 M2 => none = r ∧ z = z2 ∧ mfr B [39, 86, 87, 88] [35, 70, 71, 72, 73, 74, 75, 76, 77] M M2 ∧ mdE M2 B ∧ mgR M2 B nn now dl (gtQ now v fr d (ksB S) l n (ksQ S))) 0 0 2 [(3, .int (nI i)), (0, .ref B), (1, .int (nI v)), (2, .int fr)] [] z M2 := by
  intro k
  induction k using Nat.strongRecOn with
  | ind k ih =>
  intro i M2 hk hi hfr hE2 hmg2
  obtain ⟨⟨fs0, hO0, hF0⟩, -, -, h8, hz⟩ := id hk0
  obtain ⟨i1, i2, i3, i4, i5⟩ := id hI
  have htop := i1.top
  have hv6 : v < 6 := by omega
  obtain ⟨fs, hO, hF⟩ := id hfr.2.1
  have g92 : fs[92]? = some (.int (nI l.length)) := (fdB_of hO 92).symm.trans ((hfr.2.2 92 rfl).trans h92)
  have h782 : isA (fA M2 B 78) 0 l := by rw [fA_m hfr (by decide) rfl]; exact h78
  have hmn2 := hmn.mf hfr rfl
  generalize hs : gtQ now v fr d (ksB S) l i (ksQ S) = s at hmg2
  refine hz_iloadn (pc := 2) 0 (hz_dec kX12_receiveGet 2 rfl) rfl ?_
  refine hz_aloadn (pc := 3) 1 (hz_dec kX12_receiveGet 3 rfl) rfl ?_
  refine hz_get (pc := 4) (v := .int (nI (l.length))) (hz_dec kX12_receiveGet 4 rfl) fo_X12_637 hO h8 (by omega) g92 ?_
  refine hz_bipush (pc := 7) (v := nI 32) (hz_dec kX12_receiveGet 5 rfl) (by decide) ?_
  refine hz_divN (pc := 9) (hz_dec kX12_receiveGet 6 rfl) (by omega) (by decide) (by decide) ?_
  refine hz_eqi (pc := 10) (show _ = nI n by rw [show l.length / 32 = n by omega]) ?_
  refine hz_n_ge (pc := 10) (tgt := 64) (hz_dec kX12_receiveGet 7 rfl) (by decide) (by omega) (by omega) (fun h1 => ?_) (fun h1 => ?_)
  · skip
    have e : i = n := by omega
    exact hz_vret (pc := 64) (hz_dec kX12_receiveGet 36 rfl) rfl ⟨rfl, rfl, hfr, hE2, by rw [show gtQ now v fr d (ksB S) l n (ksQ S) = s from e ▸ hs]; exact hmg2⟩
  · skip
    have hAi : isA (fA M2 B 78) (32 * i) (hsI l i) := by have q := isA_sub (i := 32 * i) (n := 32) h782 (by omega); rw [Nat.zero_add] at q; exact q
    refine hz_aloadn (pc := 13) 1 (hz_dec kX12_receiveGet 8 rfl) rfl ?_
    refine hz_iloadn (pc := 14) 2 (hz_dec kX12_receiveGet 9 rfl) rfl ?_
    refine hz_aloadn (pc := 15) 1 (hz_dec kX12_receiveGet 10 rfl) rfl ?_
    refine hz_get (pc := 16) (v := .ref (B + 78)) (hz_dec kX12_receiveGet 11 rfl) fo_X12_255 hO h8 (by omega) (hF.2 91 (by decide) (by decide)) ?_
    refine hz_bipush (pc := 19) (v := nI 32) (hz_dec kX12_receiveGet 12 rfl) (by decide) ?_
    refine hz_iloadn (pc := 21) 0 (hz_dec kX12_receiveGet 13 rfl) rfl ?_
    refine hz_mulN (pc := 22) (hz_dec kX12_receiveGet 14 rfl) ?_
    refine hz_xV (pc := 23) (a := B) (As := [.int (nI v), .ref (B + 78), .int (nI (32 * i))]) (st := []) (hz_dec kX12_receiveGet 15 rfl) co_X12_531 im_X12_findBlock se_X12_findBlock rfl hO h8 (by omega) (c_mfB ⟨fs, hO, hF⟩ hE2 h8 hz hv6 (by omega) hmn2.2.1 hE2.a78 (by omega) (by omega) (by decide) hAi (subL_len _ _ _) (by omega)) rfl (by decide) ⟨Nat.le_refl _, Nat.le_refl _⟩ (Nat.le_of_ble_eq_true rfl) rfl ?_
    by_cases ck : blF (ksB S) (hsI l i) < (ksB S).length
    · skip
      refine hz_eqi (pc := 26) (show _ = nI (blF (ksB S) (hsI l i)) from if_pos ck) ?_
      generalize hx : blF (ksB S) (hsI l i) = x at *
      refine hz_istore (pc := 26) (i := 4) (lo2 := [(4, .int (nI x)), (3, .int (nI i)), (0, .ref B), (1, .int (nI v)), (2, .int fr)]) (hz_dec kX12_receiveGet 16 rfl) (by decide) rfl ?_
      refine hz_iload (pc := 28) 0 (hz_dec kX12_receiveGet 17 rfl) rfl ?_
      refine hz_z_lt (pc := 30) (tgt := 58) (hz_dec kX12_receiveGet 18 rfl) (by decide) (by omega) ?_
      have hln := (i1.2.2.2.2.2.1 x ck).len
      refine hz_aloadn (pc := 33) 2 (hz_dec kX12_receiveGet 19 rfl) rfl ?_
      refine hz_iloadn (pc := 34) 3 (hz_dec kX12_receiveGet 20 rfl) rfl ?_
      refine hz_iload (pc := 35) 0 (hz_dec kX12_receiveGet 21 rfl) rfl ?_
      refine hz_callV (pc := 37) (a := B) (As := [.int (nI v), .int (nI x)]) (st := []) (hz_dec kX12_receiveGet 22 rfl) co_X12_664 im_X12_bring se_X12_bring rfl hO h8 (by omega) (c_br ⟨fs, hO, hF⟩ hE2 h8 hz hv6 (by omega) hmn2.2.1 ck (hmn2.2.2 x ck) (by omega)) rfl (by decide) ⟨Nat.le_refl _, Nat.le_refl _⟩ (Nat.le_of_ble_eq_true rfl) rfl (fun r9 z9 M3 hp9 => ?_)
      obtain ⟨rfl, rfl, hf3, hE3, h393, h353⟩ := hp9
      obtain ⟨fs3, hO3, hF3⟩ := id hf3.2.1
      have g393 : fs3[39]? = some (.int (nI (bBy (ksB S) x).length)) := (fdB_of hO3 39).symm.trans h393
      have hmg3 := hmg2.mf hf3 rfl rfl
      refine hz_aloadn (pc := 40) 2 (hz_dec kX12_receiveGet 23 rfl) rfl ?_
      refine hz_iloadn (pc := 41) 3 (hz_dec kX12_receiveGet 24 rfl) rfl ?_
      refine hz_iloadn (pc := 42) 4 (hz_dec kX12_receiveGet 25 rfl) rfl ?_
      refine hz_iconst (pc := 43) (v := nI 5) (hz_dec kX12_receiveGet 26 rfl) (by decide) ?_
      refine hz_aloadn (pc := 44) 2 (hz_dec kX12_receiveGet 27 rfl) rfl ?_
      refine hz_get (pc := 45) (v := .ref (B + 35)) (hz_dec kX12_receiveGet 28 rfl) fo_X12_116 hO3 h8 (by omega) (hF3.2 38 (by decide) (by decide)) ?_
      refine hz_iconst (pc := 48) (v := nI 0) (hz_dec kX12_receiveGet 29 rfl) (by decide) ?_
      refine hz_aloadn (pc := 49) 2 (hz_dec kX12_receiveGet 30 rfl) rfl ?_
      refine hz_get (pc := 50) (v := .int (nI ((bBy (ksB S) x).length))) (hz_dec kX12_receiveGet 31 rfl) fo_X12_422 hO3 h8 (by omega) g393 ?_
      refine hz_callV (pc := 53) (a := B) (As := [.int (nI v), .int fr, .int (nI 5), .ref (B + 35), .int (nI 0), .int (nI ((bBy (ksB S) x).length))]) (st := []) (hz_dec kX12_receiveGet 32 rfl) co_X12_622 im_X12_send se_X12_send rfl hO3 h8 (by omega) (c_msend hf3.2.1 hE3 h8 hz hmg3.2.2 hmg3.2.1 hE3.a35 (by omega) (by omega) (ne_off (by decide)) (by decide) h353 (by omega) (by omega) (kd := nI 5) hv6 hto) rfl (by decide) ⟨Nat.le_refl _, Nat.le_refl _⟩ (Nat.le_of_ble_eq_true rfl) rfl (fun r9 z9 M4 hp9 => ?_)
      obtain ⟨rfl, rfl, hf4, hE4, hQ4⟩ := hp9
      refine hz_istore (pc := 56) (i := 5) (lo2 := [(5, .int (hz_b (sdR s.1 d (bBy (ksB S) x).length))), (4, .int (nI x)), (3, .int (nI i)), (0, .ref B), (1, .int (nI v)), (2, .int fr)]) (hz_dec kX12_receiveGet 33 rfl) (by decide) rfl ?_
      refine hz_incN (pc := 58) (i := 3) (lo2 := [(3, .int (nI (i + 1))), (5, .int (hz_b (sdR s.1 d (bBy (ksB S) x).length))), (4, .int (nI x)), (0, .ref B), (1, .int (nI v)), (2, .int fr)]) 2 (hz_dec kX12_receiveGet 34 rfl) rfl (by decide) rfl ?_
      refine hz_goto (pc := 61) (tgt := 2) (hz_dec kX12_receiveGet 35 rfl) (by decide) ?_
      refine hz_pick (pc := 2) [0, 3, 4, 5] rfl ?_
      refine ih (n - (i + 1)) (by omega) (i + 1) M4 rfl (by omega) ((hfr.tr (hf3.mono rfl rfl)).tr (hf4.mono rfl rfl)) hE4 ?_
      unfold gtQ
      rw [hx, if_pos ck, hs]
      exact ⟨(hf4.2.2 1 rfl).trans hmg3.1, by unfold mdD; rw [fA_m hf4 (by decide) rfl]; exact hmg3.2.1, hQ4⟩
    · skip
      refine hz_eqi (pc := 26) (show _ = (-1 : Int32) from if_neg ck) ?_
      refine hz_istore (pc := 26) (i := 4) (lo2 := [(4, .int (-1)), (3, .int (nI i)), (0, .ref B), (1, .int (nI v)), (2, .int fr)]) (hz_dec kX12_receiveGet 16 rfl) (by decide) rfl ?_
      refine hz_iload (pc := 28) 0 (hz_dec kX12_receiveGet 17 rfl) rfl ?_
      refine hz_if_lt (pc := 30) (tgt := 58) (hz_dec kX12_receiveGet 18 rfl) (by decide) (fun h2 => ?_) (fun h2 => ?_)
      · skip
        refine hz_incN (pc := 58) (i := 3) (lo2 := [(3, .int (nI (i + 1))), (4, .int (-1)), (0, .ref B), (1, .int (nI v)), (2, .int fr)]) 1 (hz_dec kX12_receiveGet 34 rfl) rfl (by decide) rfl ?_
        refine hz_goto (pc := 61) (tgt := 2) (hz_dec kX12_receiveGet 35 rfl) (by decide) ?_
        refine hz_pick (pc := 2) [0, 2, 3, 4] rfl ?_
        refine ih (n - (i + 1)) (by omega) (i + 1) M2 rfl (by omega) hfr hE2 ?_
        unfold gtQ
        rw [if_neg ck, hs]
        exact hmg2
      · skip
        exact absurd (by decide) h2
set_option maxHeartbeats 4000000 in
set_option maxRecDepth 100000 in
theorem c_rGet {κ : hz_C} {z B nn v : Nat} {now fr : Int32} {dl : Nat → Nat} (hnn : nn ≤ 6) (hvn : v < nn) {d : Nat} (hto : (∃ b, b < 6 ∧ fr = nI b ∧ d = dl (6 * v + b)) ∨ (fr < 0 ∧ d = 0)) {M : hz_M} {S : ks_S} {l : by_L} (hk0 : md_k B M z) (hE : mdE M B) (hmg : mgR M B nn now dl (ksQ S)) (hmn : mnB M B v (ksB S) (enB (ksB S)) (ksT S)) (hI : ksI S) (hl4 : l.length ≤ 4000) (h78 : isA (fA M B 78) 0 l) (h92 : fdB M B 92 = some (.int (nI l.length))) {n : Nat} (hn : n ≤ 16) (hnl : 32 * n = l.length) : hz_Mt κ xX12_receiveGet 4 0 0 [.ref B, .int (nI v), .int fr] z M (fun r z2 M2 => none = r ∧ z = z2 ∧ mfr B [39, 86, 87, 88] [35, 70, 71, 72, 73, 74, 75, 76, 77] M M2 ∧ mdE M2 B ∧ mgR M2 B nn now dl (gtQ now v fr d (ksB S) l n (ksQ S))) := by
  refine hz_ent (lo := [(0, .ref B), (1, .int (nI v)), (2, .int fr)]) (by decide) (Nat.le_of_ble_eq_true rfl) rfl ?_
  refine hz_iconst (pc := 0) (v := nI 0) (hz_dec kX12_receiveGet 0 rfl) (by decide) ?_
  refine hz_istoren (pc := 1) (i := 3) (lo2 := [(3, .int (nI 0)), (0, .ref B), (1, .int (nI v)), (2, .int fr)]) (hz_dec kX12_receiveGet 1 rfl) rfl (by decide) rfl ?_
  refine hz_pick (pc := 2) [0, 1, 2, 3] rfl ?_
  exact c_rGet_l hnn hvn hto hk0 hE hmg hmn hI hl4 h78 h92 hn hnl n 0 M rfl (Nat.zero_le _) (mfr.rf hk0.1) hE hmg
