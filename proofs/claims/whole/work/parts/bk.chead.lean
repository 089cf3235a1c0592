/-! headers: the class -/
def hhL (en : List en_E) (b : Bool) : Int32 := if b = true then nI (en.length - 1) else -1
theorem juS.hh {M M2 : hz_M} {z : Nat} (h : juS M z) (e : ∀ q, 9 ≤ q → q < 39 → q < 10 ∨ 13 ≤ q → ¬ q = 21 → ¬ q = 37 → M2 q = M q) (hk2 : ck_k M2 z) (hs2 : ck_s M2) (hw2 : ck_w M2) (h37 : ∃ h : Nat → Int32, M2 37 = .inl (1, 32, .inl h)) : juS M2 z := by
  obtain ⟨⟨bf, fe, hj⟩, ⟨s0, h34⟩, ⟨r0, h35⟩, ⟨g36, h36⟩, -, ⟨i0, h38⟩, ⟨cs0, hc⟩, hk, hs, hw⟩ := h
  exact ⟨⟨bf, fe, (e 25 (by decide) (by decide) (by decide) (by decide) (by decide)).trans hj⟩, ⟨_, (e 34 (by decide) (by decide) (by decide) (by decide) (by decide)).trans h34⟩, ⟨_, (e 35 (by decide) (by decide) (by decide) (by decide) (by decide)).trans h35⟩, ⟨_, (e 36 (by decide) (by decide) (by decide) (by decide) (by decide)).trans h36⟩, h37, ⟨_, (e 38 (by decide) (by decide) (by decide) (by decide) (by decide)).trans h38⟩, ⟨_, hc.fr (fun q q1 q2 => e q (by omega) (by omega) (by omega) (by omega) (by omega))⟩, hk2, hs2, hw2⟩
theorem kcR.hh {M M2 : hz_M} {z nb nn v tl : Nat} {tr now fr kn rc rf up : Int32} {dl : Nat → Nat} {ll : Nat} {S : ks_S} {s : mq_S} (h : kcR M z nb nn v tl tr now fr kn rc rf up dl ll S) (hnb : 63 ≤ nb) (e : frS [(10, 13), (21, 22), (37, 38), (45, 53), (57, 58), (nb + 26, nb + 30), (nb + 33, nb + 34)] M M2) (hT2 : trR M2 (nb + 21) (ksB S) (ksT S) (enB (ksB S))) (hJ2 : juS M2 z) (hml : mlR M2 nn now s dl ll fr kn) : kcR M2 z nb nn v tl tr now fr kn rc rf up dl ll (ksq S s) := by
  obtain ⟨hH, hNs, hN, ⟨gD, hD, hDX⟩, hT, hc, hp, hL, hJ, -, ⟨g53, h53⟩, ⟨L58, h58⟩, g61, h61⟩ := h
  exact ⟨(e 8 (by simp only [outS, and_true]; omega)).trans hH, (by obtain ⟨f9, q1, q2⟩ := hNs; exact ⟨f9, (e 55 (by simp only [outS, and_true]; omega)).trans q1, q2⟩), (e nb (by simp only [outS, and_true]; omega)).trans hN, ⟨gD, (e _ (by simp only [outS, and_true]; omega)).trans hD, hDX⟩, hT2, hc.fr (fun q q1 q2 => e q (by simp only [outS, and_true]; omega)), hp.fr (fun q q1 q2 => e q (by simp only [outS, and_true]; omega)), hL.fr (fun q q1 q2 => e q (by simp only [outS, and_true]; omega)), hJ2, hml, ⟨_, (e 53 (by simp only [outS, and_true]; omega)).trans h53⟩, ⟨_, h58.fr (fun q q1 q2 => e q (by simp only [outS, and_true]; omega))⟩, _, (e 61 (by simp only [outS, and_true]; omega)).trans h61⟩
/-- what stands while headers are heard -/
def hhF (M0 M : hz_M) (z nb : Nat) (bl : List bk_B) (tip : Nat) (en : List en_E) (a : by_L) : Prop := frS [(10, 13), (21, 22), (37, 38), (57, 58), (nb + 26, nb + 30), (nb + 33, nb + 34)] M0 M ∧ trR M (nb + 21) bl tip en ∧ juS M z ∧ ∃ g : Nat → Int32, M 57 = .inl (1, 1280, .inl g) ∧ isA g 0 a
set_option maxHeartbeats 4000000 in
set_option maxRecDepth 100000 in
theorem c_hh_e {κ : hz_C} {z nb nn v tl : Nat} {tr now fr kn rc rf : Int32} {dl : Nat → Nat} (hnb : 63 ≤ nb) (hnbz : nb + 34 ≤ z) (hnn : nn ≤ 6) (hvn : v < nn) {d : Nat} (hto : (∃ b, b < nn ∧ fr = nI b ∧ d = dl (6 * v + b)) ∨ (fr < 0 ∧ d = 0)) {M : hz_M} {S : ks_S} {l : by_L} (hR : kcR M z nb nn v tl tr now fr kn rc rf (nI 1) dl l.length S) (hI : ksI S) (hl4 : l.length ≤ 4000) {gl : Nat → Int32} (hgl : M 53 = .inl (1, 4000, .inl gl)) (hgA : isA gl 0 l) {n : Nat} (hn : n ≤ 16) (hnl : 80 * n = l.length) {M2 : hz_M} {ex : List en_E} {a : by_L} {c : Nat} (hF : hhF M M2 z nb (ksB S) (ksT S) (enB (ksB S) ++ ex) a) (hc16 : c ≤ 16) (ha : a.length = 32 * c) (hZ : hhZ (ksB S) l n = a) : hz_W κ xX11_hearHeaders 5 0 0 (fun r z2 M2 => none = r ∧ z = z2 ∧ frS [(10, 13), (21, 22), (37, 38), (45, 53), (57, 58), (nb + 26, nb + 30), (nb + 33, nb + 34)] M M2 ∧ kcR M2 z nb nn v tl tr now fr kn rc rf (nI 1) dl l.length (ksq S (hsQ now v fr d S l n)) ∧ ∃ g : Nat → Int32, M2 57 = .inl (1, 1280, .inl g)) 0 0 199 [(4, .int (nI c)), (0, .ref 8), (1, .ref nb)] [] z M2 := by
  obtain ⟨hH, hNs, hN, ⟨gD, hD, hDX⟩, hT, hc, hp, hL, hJ, hml, ⟨g53, h53⟩, ⟨L58, h58⟩, g61, h61⟩ := id hR
  obtain ⟨i1, i2, i3, i4, i5⟩ := id hI
  have hz63 : 63 ≤ z := by omega
  have htop := i1.top
  obtain ⟨hfr2, hT2, hJ2, g57, hg57, hgA2⟩ := id hF
  have hH2 := (hfr2 8 (by simp only [outS, and_true]; omega)).trans hH
  have hN2 := (hfr2 nb (by simp only [outS, and_true]; omega)).trans hN
  have hml2 : mlR M2 nn now (ksQ S) dl l.length fr kn := hml.fr (fun q q1 q2 q3 => hfr2 q (by simp only [outS, and_true]; omega))
  have hgl2 := (hfr2 53 (by simp only [outS, and_true]; omega)).trans hgl
  have hTO2 := hT2.1
  have hTB := hT2.cut i1.2.2.2.2.1
  refine hz_iload (pc := 199) 0 (hz_dec kX11_hearHeaders 95 rfl) rfl ?_
  refine hz_z_le (pc := 201) (tgt := 234) (hz_dec kX11_hearHeaders 96 rfl) (by decide) (by omega) (fun h1 => ?_) (fun h1 => ?_)
  · skip
    have eQ : hsQ now v fr d S l n = ksQ S := by unfold hsQ; rw [hZ, if_pos (by omega)]
    exact hz_vret (pc := 234) (hz_dec kX11_hearHeaders 113 rfl) rfl ⟨rfl, rfl, hfr2.mono (fun q h9 => ⟨h9.1, h9.2.1, h9.2.2.1, h9.2.2.2.2.1, h9.2.2.2.2.2.1, h9.2.2.2.2.2.2.1, trivial⟩), by rw [eQ]; exact hR.hh hnb (hfr2.mono (fun q h9 => ⟨h9.1, h9.2.1, h9.2.2.1, h9.2.2.2.2.1, h9.2.2.2.2.2.1, h9.2.2.2.2.2.2.1, trivial⟩)) hTB hJ2 hml2, _, hg57⟩
  · skip
    have eQ : hsQ now v fr d S l n = sd1 now (nI v) fr (nI 4) d a (ksQ S) := by unfold hsQ; rw [hZ, if_neg (by omega)]
    refine hz_aloadn (pc := 204) 1 (hz_dec kX11_hearHeaders 97 rfl) rfl ?_
    refine hz_get (pc := 205) (hz_dec kX11_hearHeaders 98 rfl) fo_X11_62 hH2 (by omega) (by omega) rfl ?_
    refine hz_aloadn (pc := 208) 2 (hz_dec kX11_hearHeaders 99 rfl) rfl ?_
    refine hz_get (pc := 209) (hz_dec kX11_hearHeaders 100 rfl) fo_X11_514 hN2 (by omega) (by omega) rfl ?_
    refine hz_aloadn (pc := 212) 1 (hz_dec kX11_hearHeaders 101 rfl) rfl ?_
    refine hz_get (pc := 213) (hz_dec kX11_hearHeaders 102 rfl) fo_X11_62 hH2 (by omega) (by omega) rfl ?_
    refine hz_get (pc := 216) (hz_dec kX11_hearHeaders 103 rfl) fo_X11_299 hml2.1 (by omega) (by omega) rfl ?_
    refine hz_iconst (pc := 219) (v := nI 4) (hz_dec kX11_hearHeaders 104 rfl) (by decide) ?_
    refine hz_aloadn (pc := 220) 1 (hz_dec kX11_hearHeaders 105 rfl) rfl ?_
    refine hz_get (pc := 221) (hz_dec kX11_hearHeaders 106 rfl) fo_X11_81 hH2 (by omega) (by omega) rfl ?_
    refine hz_iconst (pc := 224) (v := nI 0) (hz_dec kX11_hearHeaders 107 rfl) (by decide) ?_
    refine hz_bipush (pc := 225) (v := nI 32) (hz_dec kX11_hearHeaders 108 rfl) (by decide) ?_
    refine hz_iload (pc := 227) 0 (hz_dec kX11_hearHeaders 109 rfl) rfl ?_
    refine hz_mulN (pc := 229) (hz_dec kX11_hearHeaders 110 rfl) ?_
    have hd9 : d ≤ 9 := by rcases hto with ⟨b, q1, q2, q3⟩ | ⟨q1, q2⟩; obtain ⟨fd, -, hdX⟩ := id hml2.2.2; rw [q3]; exact (hdX _ (by omega)).2; omega
    have hdl : hz_Mt κ xX5_delayOf 0 0 0 [.ref 45, .int (nI v), .int fr] z M2 (hz_ex (some (.int (nI d))) z M2) := by
      rcases hto with ⟨b, q1, q2, q3⟩ | ⟨q1, q2⟩
      · rw [q2, q3]; exact c_dly hz63 hml2.1 hnn hml2.2.2 hvn q1
      · rw [q2]; exact c_dly0 hz63 hml2.1 hnn hml2.2.2 hvn q1
    have qa := c_send (κ := κ) hz63 hml2.1 hnn hml2.2.1 hg57 (by decide) (by omega) (by decide) (by decide) hgA2 (by omega) (by omega) (kd := nI 4) hdl hd9
    rw [ha] at qa
    refine hz_callV (pc := 230) (a := 45) (As := [.int (nI v), .int fr, .int (nI 4), .ref 57, .int (nI 0), .int (nI (32 * c))]) (st := []) (hz_dec kX11_hearHeaders 111 rfl) co_X11_309 im_X5_send se_X5_send rfl hml2.1 (by omega) (by omega) (qa) rfl (by decide) ⟨Nat.le_refl _, Nat.le_refl _⟩ (Nat.le_of_ble_eq_true rfl) rfl (fun r9 z9 M3 hp9 => ?_)
    obtain ⟨rfl, rfl, hf3, hO3, hQ3⟩ := hp9
    have hml3 : mlR M3 nn now (sd1 now (nI v) fr (nI 4) d a (ksQ S)) dl l.length fr kn := by unfold sd1; rw [ha]; exact ⟨hO3, hQ3, by obtain ⟨fd, q1, q2⟩ := id hml2.2.2; exact ⟨fd, (hf3.at1 (q := 54) (by omega)).trans q1, q2⟩⟩
    have hf13 : frS [(10, 13), (21, 22), (37, 38), (45, 53), (57, 58), (nb + 26, nb + 30), (nb + 33, nb + 34)] M M3 := (hfr2.mono (fun q (h9 : outS [(10, 13), (21, 22), (37, 38), (45, 53), (57, 58), (nb + 26, nb + 30), (nb + 33, nb + 34)] q) => ⟨h9.1, h9.2.1, h9.2.2.1, h9.2.2.2.2.1, h9.2.2.2.2.2.1, h9.2.2.2.2.2.2.1, trivial⟩)).tr (hf3.mono (fun q (h9 : outS [(10, 13), (21, 22), (37, 38), (45, 53), (57, 58), (nb + 26, nb + 30), (nb + 33, nb + 34)] q) => ⟨h9.2.2.2.1, trivial⟩))
    refine hz_pop (pc := 233) (hz_dec kX11_hearHeaders 112 rfl) rfl ?_
    exact hz_vret (pc := 234) (hz_dec kX11_hearHeaders 113 rfl) rfl ⟨rfl, rfl, hf13, by rw [eQ]; exact hR.hh hnb hf13 (hTB.fr (fun q q1 q2 => hf3.at1 (by omega))) (hJ2.al (fun q q1 q2 => hf3.at1 (by omega))) hml3, _, (hf3.at1 (by omega)).trans hg57⟩
theorem hhQ_n {bl : List bk_B} {l : by_L} {k i : Nat} {s : hh_S} (h : hhT bl (hhd l i) s = none) : hhQ bl l (k + 1) i s = s.2.2 := by simp only [hhQ]; rw [h]
theorem hhQ_s {bl : List bk_B} {l : by_L} {k i : Nat} {s s2 : hh_S} (h : hhT bl (hhd l i) s = some s2) : hhQ bl l (k + 1) i s = hhQ bl l k (i + 1) s2 := by simp only [hhQ]; rw [h]
theorem hhT_n {bl : List bk_B} {h : by_L} {s : hh_S} (h1 : ¬ blF bl (hhH h) < bl.length) (h2 : hhP bl h s = none) : hhT bl h s = none := by unfold hhT; rw [if_neg h1, h2]
theorem hhT_f {bl : List bk_B} {h : by_L} {s : hh_S} {p : Nat} (h1 : ¬ blF bl (hhH h) < bl.length) (h2 : hhP bl h s = some p) (h3 : wkS h = false ∨ hhK s.1 h p = false) : hhT bl h s = none := by
  unfold hhT
  rw [if_neg h1, h2]
  exact if_neg (fun q => by rcases h3 with e | e <;> rw [e] at q; exact absurd q.1 (by decide); exact absurd q.2 (by decide))
theorem hhT_s {bl : List bk_B} {h : by_L} {s : hh_S} {p : Nat} (h1 : ¬ blF bl (hhH h) < bl.length) (h2 : hhP bl h s = some p) (h3 : wkS h = true) (h4 : hhK s.1 h p = true) : hhT bl h s = some (s.1 ++ [enN_ s.1 h p], true, s.2.2 ++ hhH h) := by unfold hhT; rw [if_neg h1, h2]; exact if_pos ⟨h3, h4⟩
theorem hhT_k {bl : List bk_B} {h : by_L} {s : hh_S} (h1 : blF bl (hhH h) < bl.length) : hhT bl h s = some (s.1, false, s.2.2) := by unfold hhT; exact if_pos h1
set_option maxHeartbeats 4000000 in
set_option maxRecDepth 100000 in
theorem c_hh_n {κ : hz_C} {z nb nn v tl : Nat} {tr now fr kn rc rf : Int32} {dl : Nat → Nat} (hnb : 63 ≤ nb) (hnbz : nb + 34 ≤ z) (hnn : nn ≤ 6) (hvn : v < nn) {d : Nat} (hto : (∃ b, b < nn ∧ fr = nI b ∧ d = dl (6 * v + b)) ∨ (fr < 0 ∧ d = 0)) {M : hz_M} {S : ks_S} {l : by_L} (hR : kcR M z nb nn v tl tr now fr kn rc rf (nI 1) dl l.length S) (hI : ksI S) (hl4 : l.length ≤ 4000) {gl : Nat → Int32} (hgl : M 53 = .inl (1, 4000, .inl gl)) (hgA : isA gl 0 l) {n : Nat} (hn : n ≤ 16) (hnl : 80 * n = l.length) {M2 : hz_M} {i c : Nat} {en ex : List en_E} {b : Bool} {a : by_L} (hF : hhF M M2 z nb (ksB S) (ksT S) en a) (hJI : hhI (ksB S) l i (en, b, a)) (hex : en = enB (ksB S) ++ ex) (hin : i < n) (hci : c ≤ i) (hec : en.length = (ksB S).length + c) (ha : a.length = 32 * c) (hk : ¬ blF (ksB S) (hhH (hhd l i)) < (ksB S).length) (hP : hhP (ksB S) (hhd l i) (en, b, a) = none) {lv : Int32} (KE : hhT (ksB S) (hhd l i) (en, b, a) = none → ∀ M3, hhF M M3 z nb (ksB S) (ksT S) en a → hz_W κ xX11_hearHeaders 5 0 0 (fun r z2 M2 => none = r ∧ z = z2 ∧ frS [(10, 13), (21, 22), (37, 38), (45, 53), (57, 58), (nb + 26, nb + 30), (nb + 33, nb + 34)] M M2 ∧ kcR M2 z nb nn v tl tr now fr kn rc rf (nI 1) dl l.length (ksq S (hsQ now v fr d S l n)) ∧ ∃ g : Nat → Int32, M2 57 = .inl (1, 1280, .inl g)) 0 0 199 [(4, .int (nI c)), (0, .ref 8), (1, .ref nb)] [] z M3) : hz_W κ xX11_hearHeaders 5 0 0 (fun r z2 M2 => none = r ∧ z = z2 ∧ frS [(10, 13), (21, 22), (37, 38), (45, 53), (57, 58), (nb + 26, nb + 30), (nb + 33, nb + 34)] M M2 ∧ kcR M2 z nb nn v tl tr now fr kn rc rf (nI 1) dl l.length (ksq S (hsQ now v fr d S l n)) ∧ ∃ g : Nat → Int32, M2 57 = .inl (1, 1280, .inl g)) 0 0 123 [(9, .int (-1)), (8, .int (hz_b (wkS (hhd l i)))), (7, .int (nI (80 * i))), (6, .int (nI i)), (5, .int lv), (4, .int (nI c)), (0, .ref 8), (1, .ref nb), (2, .int (nI n)), (3, .ref (nb + 21))] [] z M2 := by
  refine hz_iload (pc := 123) 1 (hz_dec kX11_hearHeaders 61 rfl) rfl ?_
  refine hz_if_eq (pc := 125) (tgt := 199) (hz_dec kX11_hearHeaders 62 rfl) (by decide) (fun h1 => ?_) (fun h1 => ?_)
  · skip
    refine hz_pick (pc := 199) [5, 6, 7] rfl ?_
    exact KE (hhT_n hk hP) M2 hF
  · skip
    refine hz_iload (pc := 128) 0 (hz_dec kX11_hearHeaders 63 rfl) rfl ?_
    refine hz_if_lt (pc := 130) (tgt := 199) (hz_dec kX11_hearHeaders 64 rfl) (by decide) (fun h2 => ?_) (fun h2 => ?_)
    · skip
      refine hz_pick (pc := 199) [5, 6, 7] rfl ?_
      exact KE (hhT_n hk hP) M2 hF
    · skip
      exact absurd (by decide) h2
set_option maxHeartbeats 4000000 in
set_option maxRecDepth 100000 in
theorem c_hh_p {κ : hz_C} {z nb nn v tl : Nat} {tr now fr kn rc rf : Int32} {dl : Nat → Nat} (hnb : 63 ≤ nb) (hnbz : nb + 34 ≤ z) (hnn : nn ≤ 6) (hvn : v < nn) {d : Nat} (hto : (∃ b, b < nn ∧ fr = nI b ∧ d = dl (6 * v + b)) ∨ (fr < 0 ∧ d = 0)) {M : hz_M} {S : ks_S} {l : by_L} (hR : kcR M z nb nn v tl tr now fr kn rc rf (nI 1) dl l.length S) (hI : ksI S) (hl4 : l.length ≤ 4000) {gl : Nat → Int32} (hgl : M 53 = .inl (1, 4000, .inl gl)) (hgA : isA gl 0 l) {n : Nat} (hn : n ≤ 16) (hnl : 80 * n = l.length) {M2 : hz_M} {i c : Nat} {en ex : List en_E} {b : Bool} {a : by_L} (hF : hhF M M2 z nb (ksB S) (ksT S) en a) (hJI : hhI (ksB S) l i (en, b, a)) (hex : en = enB (ksB S) ++ ex) (hin : i < n) (hci : c ≤ i) (hec : en.length = (ksB S).length + c) (ha : a.length = 32 * c) {p : Nat} (hk : ¬ blF (ksB S) (hhH (hhd l i)) < (ksB S).length) (hP : hhP (ksB S) (hhd l i) (en, b, a) = some p) {fh : Nat → Int32} (h37 : M2 37 = .inl (1, 32, .inl fh)) (hfA : isA fh 0 (hhH (hhd l i))) {lv : Int32} (KE : hhT (ksB S) (hhd l i) (en, b, a) = none → ∀ M3, hhF M M3 z nb (ksB S) (ksT S) en a → hz_W κ xX11_hearHeaders 5 0 0 (fun r z2 M2 => none = r ∧ z = z2 ∧ frS [(10, 13), (21, 22), (37, 38), (45, 53), (57, 58), (nb + 26, nb + 30), (nb + 33, nb + 34)] M M2 ∧ kcR M2 z nb nn v tl tr now fr kn rc rf (nI 1) dl l.length (ksq S (hsQ now v fr d S l n)) ∧ ∃ g : Nat → Int32, M2 57 = .inl (1, 1280, .inl g)) 0 0 199 [(4, .int (nI c)), (0, .ref 8), (1, .ref nb)] [] z M3) (KS : ∀ M3, hhT (ksB S) (hhd l i) (en, b, a) = some (en ++ [enN_ en (hhd l i) p], true, a ++ hhH (hhd l i)) → hhF M M3 z nb (ksB S) (ksT S) (en ++ [enN_ en (hhd l i) p]) (a ++ hhH (hhd l i)) → hz_W κ xX11_hearHeaders 5 0 0 (fun r z2 M2 => none = r ∧ z = z2 ∧ frS [(10, 13), (21, 22), (37, 38), (45, 53), (57, 58), (nb + 26, nb + 30), (nb + 33, nb + 34)] M M2 ∧ kcR M2 z nb nn v tl tr now fr kn rc rf (nI 1) dl l.length (ksq S (hsQ now v fr d S l n)) ∧ ∃ g : Nat → Int32, M2 57 = .inl (1, 1280, .inl g)) 0 0 14 [(6, .int (nI (i + 1))), (5, .int (hhL (en ++ [enN_ en (hhd l i) p]) true)), (4, .int (nI (c + 1))), (0, .ref 8), (1, .ref nb), (2, .int (nI n)), (3, .ref (nb + 21))] [] z M3) : hz_W κ xX11_hearHeaders 5 0 0 (fun r z2 M2 => none = r ∧ z = z2 ∧ frS [(10, 13), (21, 22), (37, 38), (45, 53), (57, 58), (nb + 26, nb + 30), (nb + 33, nb + 34)] M M2 ∧ kcR M2 z nb nn v tl tr now fr kn rc rf (nI 1) dl l.length (ksq S (hsQ now v fr d S l n)) ∧ ∃ g : Nat → Int32, M2 57 = .inl (1, 1280, .inl g)) 0 0 123 [(9, .int (nI p)), (8, .int (hz_b (wkS (hhd l i)))), (7, .int (nI (80 * i))), (6, .int (nI i)), (5, .int lv), (4, .int (nI c)), (0, .ref 8), (1, .ref nb), (2, .int (nI n)), (3, .ref (nb + 21))] [] z M2 := by
  obtain ⟨hH, hNs, hN, ⟨gD, hD, hDX⟩, hT, hc, hp, hL, hJ, hml, ⟨g53, h53⟩, ⟨L58, h58⟩, g61, h61⟩ := id hR
  obtain ⟨i1, i2, i3, i4, i5⟩ := id hI
  have hz63 : 63 ≤ z := by omega
  have htop := i1.top
  obtain ⟨hfr2, hT2, hJ2, g57, hg57, hgA2⟩ := id hF
  have hH2 := (hfr2 8 (by simp only [outS, and_true]; omega)).trans hH
  have hN2 := (hfr2 nb (by simp only [outS, and_true]; omega)).trans hN
  have hml2 : mlR M2 nn now (ksQ S) dl l.length fr kn := hml.fr (fun q q1 q2 q3 => hfr2 q (by simp only [outS, and_true]; omega))
  have hgl2 := (hfr2 53 (by simp only [outS, and_true]; omega)).trans hgl
  have hTO2 := hT2.1
  have hpl : p < en.length := hhP_lt hJI hP
  have hAi : isA gl (80 * i) (hhd l i) := by have q := isA_sub (i := 80 * i) (n := 80) hgA (by omega); rw [Nat.zero_add] at q; exact q
  have hw5 : wfE en := hJI.2.1
  have hel := hT2.2.2.2.2.2.2.2.2.2.2.1
  refine hz_iload (pc := 123) 1 (hz_dec kX11_hearHeaders 61 rfl) rfl ?_
  refine hz_if_eq (pc := 125) (tgt := 199) (hz_dec kX11_hearHeaders 62 rfl) (by decide) (fun h1 => ?_) (fun h1 => ?_)
  · skip
    refine hz_pick (pc := 199) [5, 6, 7] rfl ?_
    exact KE (hhT_f hk hP (Or.inl (hz_b0 h1))) M2 hF
  · skip
    have hwk := hz_b1 h1
    refine hz_iload (pc := 128) 0 (hz_dec kX11_hearHeaders 63 rfl) rfl ?_
    refine hz_z_lt (pc := 130) (tgt := 199) (hz_dec kX11_hearHeaders 64 rfl) (by decide) (by omega) ?_
    refine hz_aloadn (pc := 133) 9 (hz_dec kX11_hearHeaders 65 rfl) rfl ?_
    refine hz_aloadn (pc := 134) 6 (hz_dec kX11_hearHeaders 66 rfl) rfl ?_
    refine hz_get (pc := 135) (hz_dec kX11_hearHeaders 67 rfl) fo_X11_62 hH2 (by omega) (by omega) rfl ?_
    refine hz_get (pc := 138) (hz_dec kX11_hearHeaders 68 rfl) fo_X11_450 hml2.1 (by omega) (by omega) rfl ?_
    refine hz_iload (pc := 141) 2 (hz_dec kX11_hearHeaders 69 rfl) rfl ?_
    refine hz_iload (pc := 143) 0 (hz_dec kX11_hearHeaders 70 rfl) rfl ?_
    refine hz_iload (pc := 145) 5 (hz_dec kX11_hearHeaders 71 rfl) rfl ?_
    refine hz_callV (pc := 147) (a := nb + 21) (As := [.ref 53, .int (nI (80 * i)), .int (nI p), .int (nI c)]) (st := []) (hz_dec kX11_hearHeaders 72 rfl) co_X11_534 im_X10_lend se_X10_lend rfl hTO2 (by omega) (by omega) (c_lend hT2 (by omega) (by omega) hJ2.2.2.2.2.2.2.2.2.2 hgl2 (by decide) (by omega) (by omega) (by decide) hAi (subL_len _ _ _) (by omega) hpl (by omega) hec) rfl (by decide) ⟨Nat.le_refl _, Nat.le_refl _⟩ (Nat.le_of_ble_eq_true rfl) rfl (fun r9 z9 M3 hp9 => ?_)
    obtain ⟨rfl, rfl, hf3, hw3, hT3, hT3n⟩ := hp9
    have hf13 : frS [(10, 13), (21, 22), (37, 38), (57, 58), (nb + 26, nb + 30), (nb + 33, nb + 34)] M M3 := hfr2.tr (hf3.mono (fun q h9 => ⟨h9.2.1, h9.2.2.2.2.1, h9.2.2.2.2.2.1, trivial⟩))
    have hJ3 : juS M3 z := hJ2.w (fun q q1 q2 q3 => hf3.at3 (by omega)) hw3
    have hg573 := (hf3.at3 (q := 57) (by omega)).trans hg57
    have h373 := (hf3.at3 (q := 37) (by omega)).trans h37
    have hH3 := (hf3.at3 (q := 8) (by omega)).trans hH2
    refine hz_if_ne (pc := 150) (tgt := 156) (hz_dec kX11_hearHeaders 73 rfl) (by decide) (fun h3 => ?_) (fun h3 => ?_)
    · skip
      have hkk := hz_b1 h3
      have hT3x := hT3n (hhE_w hw5 hpl hwk hkk)
      obtain ⟨hrO, -⟩ := id hT3x.2.1
      rw [List.length_map] at hrO
      have hTO3 := hT3x.1
      obtain ⟨⟨bf, fe, hj3⟩, -⟩ := id hJ3
      refine hz_aloadn (pc := 156) 9 (hz_dec kX11_hearHeaders 75 rfl) rfl ?_
      refine hz_get (pc := 157) (hz_dec kX11_hearHeaders 76 rfl) fo_X11_217 hTO3 (by omega) (by omega) rfl ?_
      refine hz_get (pc := 160) (hz_dec kX11_hearHeaders 77 rfl) fo_X11_220 hrO (by omega) (by omega) rfl ?_
      refine hz_iload (pc := 163) 5 (hz_dec kX11_hearHeaders 78 rfl) rfl ?_
      refine hz_addN (pc := 165) (hz_dec kX11_hearHeaders 79 rfl) ?_
      refine hz_eqi (pc := 166) (show _ = hhL (en ++ [enN_ en (hhd l i) p]) true by unfold hhL; rw [if_pos rfl, List.length_append, hec]; rfl) ?_
      refine hz_istore (pc := 166) (i := 5) (lo2 := [(5, .int (hhL (en ++ [enN_ en (hhd l i) p]) true)), (9, .int (nI p)), (8, .int (hz_b (wkS (hhd l i)))), (7, .int (nI (80 * i))), (6, .int (nI i)), (4, .int (nI c)), (0, .ref 8), (1, .ref nb), (2, .int (nI n)), (3, .ref (nb + 21))]) (hz_dec kX11_hearHeaders 80 rfl) (by decide) rfl ?_
      refine hz_aloadn (pc := 168) 6 (hz_dec kX11_hearHeaders 81 rfl) rfl ?_
      refine hz_get (pc := 169) (hz_dec kX11_hearHeaders 82 rfl) fo_X11_46 hH3 (by omega) (by omega) rfl ?_
      refine hz_get (pc := 172) (hz_dec kX11_hearHeaders 83 rfl) fo_X11_108 hj3 (by omega) (by omega) rfl ?_
      refine hz_iconst (pc := 175) (v := nI 0) (hz_dec kX11_hearHeaders 84 rfl) (by decide) ?_
      refine hz_aloadn (pc := 176) 6 (hz_dec kX11_hearHeaders 85 rfl) rfl ?_
      refine hz_get (pc := 177) (hz_dec kX11_hearHeaders 86 rfl) fo_X11_81 hH3 (by omega) (by omega) rfl ?_
      refine hz_bipush (pc := 180) (v := nI 32) (hz_dec kX11_hearHeaders 87 rfl) (by decide) ?_
      refine hz_iload (pc := 182) 5 (hz_dec kX11_hearHeaders 88 rfl) rfl ?_
      refine hz_mulN (pc := 184) (hz_dec kX11_hearHeaders 89 rfl) ?_
      refine hz_bipush (pc := 185) (v := nI 32) (hz_dec kX11_hearHeaders 90 rfl) (by decide) ?_
      refine hz_xS (pc := 187) (As := [.ref 37, .int (nI 0), .ref 57, .int (nI (32 * c)), .int (nI 32)]) (st := []) (hz_dec kX11_hearHeaders 91 rfl) co_X11_231 sc_X0_copy (c_copy h373 (by decide) (by omega) (by decide) hg573 (by decide) (by omega) (by decide) (by decide) (by omega)) rfl (by decide) ⟨Nat.le_refl _, Nat.le_refl _⟩ (Nat.le_of_ble_eq_true rfl) rfl ?_
      refine hz_incN (pc := 190) (i := 4) (lo2 := [(4, .int (nI (c + 1))), (5, .int (hhL (en ++ [enN_ en (hhd l i) p]) true)), (9, .int (nI p)), (8, .int (hz_b (wkS (hhd l i)))), (7, .int (nI (80 * i))), (6, .int (nI i)), (0, .ref 8), (1, .ref nb), (2, .int (nI n)), (3, .ref (nb + 21))]) 5 (hz_dec kX11_hearHeaders 92 rfl) rfl (by decide) rfl ?_
      refine hz_incN (pc := 193) (i := 6) (lo2 := [(6, .int (nI (i + 1))), (4, .int (nI (c + 1))), (5, .int (hhL (en ++ [enN_ en (hhd l i) p]) true)), (9, .int (nI p)), (8, .int (hz_b (wkS (hhd l i)))), (7, .int (nI (80 * i))), (0, .ref 8), (1, .ref nb), (2, .int (nI n)), (3, .ref (nb + 21))]) 5 (hz_dec kX11_hearHeaders 93 rfl) rfl (by decide) rfl ?_
      refine hz_goto (pc := 196) (tgt := 14) (hz_dec kX11_hearHeaders 94 rfl) (by decide) ?_
      refine hz_pick (pc := 14) [0, 2, 1, 6, 7, 8, 9] rfl ?_
      have hap := va_cpy_app hgA2 hfA
      rw [ha, hhH_len] at hap
      exact KS _ (hhT_s hk hP hwk hkk) ⟨fun q hq => (va_up_ne _ _ (fun e => by have r := hq.2.2.2.1; omega)).trans (hf13 q hq), hT3x.fr (fun q q1 q2 => va_up_ne _ _ (by omega)), hJ3.al (fun q q1 q2 => va_up_ne _ _ (by omega)), _, va_up_self _ _ _, hap⟩
    · skip
      refine hz_goto (pc := 153) (tgt := 199) (hz_dec kX11_hearHeaders 74 rfl) (by decide) ?_
      refine hz_pick (pc := 199) [5, 6, 7] rfl ?_
      exact KE (hhT_f hk hP (Or.inr (hz_b0 h3))) M3 ⟨hf13, hT3, hJ3, g57, hg573, hgA2⟩
set_option maxHeartbeats 4000000 in
set_option maxRecDepth 100000 in
theorem c_hh_l {κ : hz_C} {z nb nn v tl : Nat} {tr now fr kn rc rf : Int32} {dl : Nat → Nat} (hnb : 63 ≤ nb) (hnbz : nb + 34 ≤ z) (hnn : nn ≤ 6) (hvn : v < nn) {d : Nat} (hto : (∃ b, b < nn ∧ fr = nI b ∧ d = dl (6 * v + b)) ∨ (fr < 0 ∧ d = 0)) {M : hz_M} {S : ks_S} {l : by_L} (hR : kcR M z nb nn v tl tr now fr kn rc rf (nI 1) dl l.length S) (hI : ksI S) (hl4 : l.length ≤ 4000) {gl : Nat → Int32} (hgl : M 53 = .inl (1, 4000, .inl gl)) (hgA : isA gl 0 l) {n : Nat} (hn : n ≤ 16) (hnl : 80 * n = l.length) : ∀ k i en b a c M2 ex, k = n - i → i ≤ n → hhF M M2 z nb (ksB S) (ksT S) en a → hhI (ksB S) l i (en, b, a) → en = enB (ksB S) ++ ex → c ≤ i → en.length = (ksB S).length + c → a.length = 32 * c → hhZ (ksB S) l n = hhQ (ksB S) l k i (en, b, a) → hz_W κ xX11_hearHeaders 5 0 0 (fun r z2 M2 => none = r ∧ z = z2 ∧ frS [(10, 13), (21, 22), (37, 38), (45, 53), (57, 58), (nb + 26, nb + 30), (nb + 33, nb + 34)] M M2 ∧ kcR M2 z nb nn v tl tr now fr kn rc rf (nI 1) dl l.length (ksq S (hsQ now v fr d S l n)) ∧ ∃ g : Nat → Int32, M2 57 = .inl (1, 1280, .inl g)) 0 0 14 [(6, .int (nI i)), (5, .int (hhL (en) b)), (4, .int (nI c)), (0, .ref 8), (1, .ref nb), (2, .int (nI n)), (3, .ref (nb + 21))] [] z M2 := by
  intro k
  induction k with
  | zero =>
    intro i en b a c M2 ex hk hi hF hJI hex hci hec ha hZ
    obtain ⟨hH, hNs, hN, ⟨gD, hD, hDX⟩, hT, hc, hp, hL, hJ, hml, ⟨g53, h53⟩, ⟨L58, h58⟩, g61, h61⟩ := id hR
    obtain ⟨i1, i2, i3, i4, i5⟩ := id hI
    have hz63 : 63 ≤ z := by omega
    have htop := i1.top
    obtain ⟨hfr2, hT2, hJ2, g57, hg57, hgA2⟩ := id hF
    have hH2 := (hfr2 8 (by simp only [outS, and_true]; omega)).trans hH
    have hN2 := (hfr2 nb (by simp only [outS, and_true]; omega)).trans hN
    have hml2 : mlR M2 nn now (ksQ S) dl l.length fr kn := hml.fr (fun q q1 q2 q3 => hfr2 q (by simp only [outS, and_true]; omega))
    have hgl2 := (hfr2 53 (by simp only [outS, and_true]; omega)).trans hgl
    have hTO2 := hT2.1
    refine hz_iload (pc := 14) 0 (hz_dec kX11_hearHeaders 9 rfl) rfl ?_
    refine hz_iloadn (pc := 16) 5 (hz_dec kX11_hearHeaders 10 rfl) rfl ?_
    refine hz_n_ge (pc := 17) (tgt := 199) (hz_dec kX11_hearHeaders 11 rfl) (by decide) (by omega) (by omega) (fun h1 => ?_) (fun h1 => ?_)
    · skip
      refine hz_pick (pc := 199) [2, 3, 4] rfl ?_
      exact c_hh_e hnb hnbz hnn hvn hto hR hI hl4 hgl hgA hn hnl (hex ▸ hF) (by omega) ha hZ
    · skip
      exact absurd h1 (by omega)
  | succ k ih =>
    intro i en b a c M2 ex hk hi hF hJI hex hci hec ha hZ
    obtain ⟨hH, hNs, hN, ⟨gD, hD, hDX⟩, hT, hc, hp, hL, hJ, hml, ⟨g53, h53⟩, ⟨L58, h58⟩, g61, h61⟩ := id hR
    obtain ⟨i1, i2, i3, i4, i5⟩ := id hI
    have hz63 : 63 ≤ z := by omega
    have htop := i1.top
    obtain ⟨hfr2, hT2, hJ2, g57, hg57, hgA2⟩ := id hF
    have hH2 := (hfr2 8 (by simp only [outS, and_true]; omega)).trans hH
    have hN2 := (hfr2 nb (by simp only [outS, and_true]; omega)).trans hN
    have hml2 : mlR M2 nn now (ksQ S) dl l.length fr kn := hml.fr (fun q q1 q2 q3 => hfr2 q (by simp only [outS, and_true]; omega))
    have hgl2 := (hfr2 53 (by simp only [outS, and_true]; omega)).trans hgl
    have hTO2 := hT2.1
    obtain ⟨bf, fe, hj2⟩ := id hJ2.1
    obtain ⟨f37, h37⟩ := id hJ2.2.2.2.2.1
    have hin : i < n := by omega
    have hAi : isA gl (80 * i) (hhd l i) := by have q := isA_sub (i := 80 * i) (n := 80) hgA (by omega); rw [Nat.zero_add] at q; exact q
    have hAp : isA gl (80 * i) (subL (hhd l i) 0 32) := by have q := isA_sub (i := 0) (n := 32) hAi (by rw [show (hhd l i).length = 80 from subL_len _ _ _]; decide); rw [Nat.add_zero] at q; exact q
    refine hz_iload (pc := 14) 0 (hz_dec kX11_hearHeaders 9 rfl) rfl ?_
    refine hz_iloadn (pc := 16) 5 (hz_dec kX11_hearHeaders 10 rfl) rfl ?_
    refine hz_n_ge (pc := 17) (tgt := 199) (hz_dec kX11_hearHeaders 11 rfl) (by decide) (by omega) (by omega) (fun h1 => ?_) (fun h1 => ?_)
    · skip
      exact absurd h1 (by omega)
    · skip
      refine hz_bipush (pc := 20) (v := nI 80) (hz_dec kX11_hearHeaders 12 rfl) (by decide) ?_
      refine hz_iload (pc := 22) 0 (hz_dec kX11_hearHeaders 13 rfl) rfl ?_
      refine hz_mulN (pc := 24) (hz_dec kX11_hearHeaders 14 rfl) ?_
      refine hz_istore (pc := 25) (i := 7) (lo2 := [(7, .int (nI (80 * i))), (6, .int (nI i)), (5, .int (hhL (en) b)), (4, .int (nI c)), (0, .ref 8), (1, .ref nb), (2, .int (nI n)), (3, .ref (nb + 21))]) (hz_dec kX11_hearHeaders 15 rfl) (by decide) rfl ?_
      refine hz_aloadn (pc := 27) 4 (hz_dec kX11_hearHeaders 16 rfl) rfl ?_
      refine hz_get (pc := 28) (hz_dec kX11_hearHeaders 17 rfl) fo_X11_46 hH2 (by omega) (by omega) rfl ?_
      refine hz_aloadn (pc := 31) 4 (hz_dec kX11_hearHeaders 18 rfl) rfl ?_
      refine hz_get (pc := 32) (hz_dec kX11_hearHeaders 19 rfl) fo_X11_62 hH2 (by omega) (by omega) rfl ?_
      refine hz_get (pc := 35) (hz_dec kX11_hearHeaders 20 rfl) fo_X11_450 hml2.1 (by omega) (by omega) rfl ?_
      refine hz_iload (pc := 38) 0 (hz_dec kX11_hearHeaders 21 rfl) rfl ?_
      refine hz_callV (pc := 40) (a := 25) (As := [.ref 53, .int (nI (80 * i))]) (st := []) (hz_dec kX11_hearHeaders 22 rfl) co_X11_433 im_X3_works se_X3_works rfl hj2 (by omega) (by omega) (c_works hJ2.2.2.2.2.2.2.2.1 hJ2.2.2.2.2.2.2.2.2.1 hJ2.2.2.2.2.2.2.2.2.2 hj2 h37 hgl2 (by decide) (by omega) (by decide) hAi (subL_len _ _ _) (by omega)) rfl (by decide) ⟨Nat.le_refl _, Nat.le_refl _⟩ (Nat.le_of_ble_eq_true rfl) rfl (fun r9 z9 M3 hp9 => ?_)
      obtain ⟨rfl, rfl, hf3, hk3, hs3, hw3, fh, h373, hfA⟩ := hp9
      have hf13 : frS [(10, 13), (21, 22), (37, 38), (57, 58), (nb + 26, nb + 30), (nb + 33, nb + 34)] M M3 := hfr2.tr (hf3.mono (fun q h9 => ⟨h9.1, h9.2.1, h9.2.2.1, trivial⟩))
      have hJ3 : juS M3 z := hJ2.hh (fun q q1 q2 q3 q4 q5 => hf3.at3 (by omega)) hk3 hs3 hw3 ⟨_, h373⟩
      have hT3 := hT2.fr (M2 := M3) (fun q q1 q2 => hf3.at3 (by omega))
      have hTO3 := hT3.1
      have hg573 := (hf3.at3 (q := 57) (by omega)).trans hg57
      have hH3 := (hf3.at3 (q := 8) (by omega)).trans hH2
      have hgl3 := (hf3.at3 (q := 53) (by omega)).trans hgl2
      have hml3 : mlR M3 nn now (ksQ S) dl l.length fr kn := hml2.fr (fun q q1 q2 q3 => hf3.at3 (by omega))
      have hj3 := (hf3.at3 (q := 25) (by omega)).trans hj2
      have hF3 : hhF M M3 z nb (ksB S) (ksT S) en a := ⟨hf13, hT3, hJ3, g57, hg573, hgA2⟩
      refine hz_istore (pc := 43) (i := 8) (lo2 := [(8, .int (hz_b (wkS (hhd l i)))), (7, .int (nI (80 * i))), (6, .int (nI i)), (5, .int (hhL (en) b)), (4, .int (nI c)), (0, .ref 8), (1, .ref nb), (2, .int (nI n)), (3, .ref (nb + 21))]) (hz_dec kX11_hearHeaders 23 rfl) (by decide) rfl ?_
      refine hz_aloadn (pc := 45) 8 (hz_dec kX11_hearHeaders 24 rfl) rfl ?_
      refine hz_aloadn (pc := 46) 5 (hz_dec kX11_hearHeaders 25 rfl) rfl ?_
      refine hz_get (pc := 47) (hz_dec kX11_hearHeaders 26 rfl) fo_X11_46 hH3 (by omega) (by omega) rfl ?_
      refine hz_get (pc := 50) (hz_dec kX11_hearHeaders 27 rfl) fo_X11_108 hj3 (by omega) (by omega) rfl ?_
      refine hz_iconst (pc := 53) (v := nI 0) (hz_dec kX11_hearHeaders 28 rfl) (by decide) ?_
      refine hz_xV (pc := 54) (a := nb + 21) (As := [.ref 37, .int (nI 0)]) (st := []) (hz_dec kX11_hearHeaders 29 rfl) co_X11_528 im_X10_indexOf se_X10_indexOf rfl hTO3 (by omega) (by omega) (c_trIx hT3 (by omega) (by omega) h373 (by decide) (by omega) (by decide) hfA (hhH_len _) (by decide)) rfl (by decide) ⟨Nat.le_refl _, Nat.le_refl _⟩ (Nat.le_of_ble_eq_true rfl) rfl ?_
      by_cases ck : blF (ksB S) (hhH (hhd l i)) < (ksB S).length
      · skip
        refine hz_eqi (pc := 57) (show _ = nI (blF (ksB S) (hhH (hhd l i))) from if_pos ck) ?_
        refine hz_z_lt (pc := 57) (tgt := 66) (hz_dec kX11_hearHeaders 30 rfl) (by decide) (by omega) ?_
        refine hz_iconst (pc := 60) (v := (-1)) (hz_dec kX11_hearHeaders 31 rfl) (by decide) ?_
        refine hz_eqi (pc := 61) (show _ = hhL en false from rfl) ?_
        refine hz_istore (pc := 61) (i := 5) (lo2 := [(5, .int (hhL (en) false)), (8, .int (hz_b (wkS (hhd l i)))), (7, .int (nI (80 * i))), (6, .int (nI i)), (4, .int (nI c)), (0, .ref 8), (1, .ref nb), (2, .int (nI n)), (3, .ref (nb + 21))]) (hz_dec kX11_hearHeaders 32 rfl) (by decide) rfl ?_
        refine hz_goto (pc := 63) (tgt := 193) (hz_dec kX11_hearHeaders 33 rfl) (by decide) ?_
        refine hz_incN (pc := 193) (i := 6) (lo2 := [(6, .int (nI (i + 1))), (5, .int (hhL (en) false)), (8, .int (hz_b (wkS (hhd l i)))), (7, .int (nI (80 * i))), (4, .int (nI c)), (0, .ref 8), (1, .ref nb), (2, .int (nI n)), (3, .ref (nb + 21))]) 3 (hz_dec kX11_hearHeaders 93 rfl) rfl (by decide) rfl ?_
        refine hz_goto (pc := 196) (tgt := 14) (hz_dec kX11_hearHeaders 94 rfl) (by decide) ?_
        refine hz_pick (pc := 14) [0, 1, 4, 5, 6, 7, 8] rfl ?_
        exact ih (i + 1) en false a c M3 ex (by omega) (by omega) hF3 (hhT_I hJI (hhT_k ck)) hex (by omega) hec ha (hZ.trans (hhQ_s (hhT_k ck)))
      · skip
        refine hz_eqi (pc := 57) (show _ = (-1 : Int32) from if_neg ck) ?_
        refine hz_if_lt (pc := 57) (tgt := 66) (hz_dec kX11_hearHeaders 30 rfl) (by decide) (fun h2 => ?_) (fun h2 => ?_)
        · skip
          refine hz_aloadn (pc := 66) 8 (hz_dec kX11_hearHeaders 34 rfl) rfl ?_
          refine hz_aloadn (pc := 67) 5 (hz_dec kX11_hearHeaders 35 rfl) rfl ?_
          refine hz_get (pc := 68) (hz_dec kX11_hearHeaders 36 rfl) fo_X11_62 hH3 (by omega) (by omega) rfl ?_
          refine hz_get (pc := 71) (hz_dec kX11_hearHeaders 37 rfl) fo_X11_450 hml3.1 (by omega) (by omega) rfl ?_
          refine hz_iload (pc := 74) 1 (hz_dec kX11_hearHeaders 38 rfl) rfl ?_
          refine hz_xV (pc := 76) (a := nb + 21) (As := [.ref 53, .int (nI (80 * i))]) (st := []) (hz_dec kX11_hearHeaders 39 rfl) co_X11_528 im_X10_indexOf se_X10_indexOf rfl hTO3 (by omega) (by omega) (c_trIx hT3 (by omega) (by omega) hgl3 (by decide) (by omega) (by decide) hAp (subL_len _ _ _) (by omega)) rfl (by decide) ⟨Nat.le_refl _, Nat.le_refl _⟩ (Nat.le_of_ble_eq_true rfl) rfl ?_
          by_cases cp : blF (ksB S) (subL (hhd l i) 0 32) < (ksB S).length
          · skip
            refine hz_eqi (pc := 79) (show _ = nI (blF (ksB S) (subL (hhd l i) 0 32)) from if_pos cp) ?_
            refine hz_istore (pc := 79) (i := 9) (lo2 := [(9, .int (nI (blF (ksB S) (subL (hhd l i) 0 32)))), (8, .int (hz_b (wkS (hhd l i)))), (7, .int (nI (80 * i))), (6, .int (nI i)), (5, .int (hhL (en) b)), (4, .int (nI c)), (0, .ref 8), (1, .ref nb), (2, .int (nI n)), (3, .ref (nb + 21))]) (hz_dec kX11_hearHeaders 40 rfl) (by decide) rfl ?_
            refine hz_iload (pc := 81) 0 (hz_dec kX11_hearHeaders 41 rfl) rfl ?_
            refine hz_z_ge (pc := 83) (tgt := 123) (hz_dec kX11_hearHeaders 42 rfl) (by decide) (by omega) ?_
            refine hz_pick (pc := 123) [0, 1, 2, 3, 4, 5, 6, 7, 8, 9] rfl ?_
            exact c_hh_p hnb hnbz hnn hvn hto hR hI hl4 hgl hgA hn hnl hF3 hJI hex hin hci hec ha ck (if_pos cp) h373 hfA (fun e9 M9 hF9 => c_hh_e hnb hnbz hnn hvn hto hR hI hl4 hgl hgA hn hnl (hex ▸ hF9) (by omega) ha (hZ.trans (hhQ_n e9))) (fun M9 e9 hF9 => ih (i + 1) _ true _ (c + 1) M9 _ (by omega) (by omega) hF9 (hhT_I hJI e9) (by rw [hex, List.append_assoc]) (by omega) (by rw [List.length_append, hec]; rfl) (by rw [List.length_append, hhH_len]; omega) (hZ.trans (hhQ_s e9)))
          · skip
            refine hz_eqi (pc := 79) (show _ = (-1 : Int32) from if_neg cp) ?_
            refine hz_istore (pc := 79) (i := 9) (lo2 := [(9, .int (-1)), (8, .int (hz_b (wkS (hhd l i)))), (7, .int (nI (80 * i))), (6, .int (nI i)), (5, .int (hhL (en) b)), (4, .int (nI c)), (0, .ref 8), (1, .ref nb), (2, .int (nI n)), (3, .ref (nb + 21))]) (hz_dec kX11_hearHeaders 40 rfl) (by decide) rfl ?_
            refine hz_iload (pc := 81) 0 (hz_dec kX11_hearHeaders 41 rfl) rfl ?_
            refine hz_if_ge (pc := 83) (tgt := 123) (hz_dec kX11_hearHeaders 42 rfl) (by decide) (fun h3 => ?_) (fun h3 => ?_)
            · skip
              exact absurd h3 (by decide)
            · skip
              cases b with
              | false =>
                refine hz_iload (pc := 86) 4 (hz_dec kX11_hearHeaders 43 rfl) rfl ?_
                refine hz_eqi (pc := 88) (show _ = (-1 : Int32) from rfl) ?_
                refine hz_if_lt (pc := 88) (tgt := 123) (hz_dec kX11_hearHeaders 44 rfl) (by decide) (fun h4 => ?_) (fun h4 => ?_)
                · skip
                  refine hz_pick (pc := 123) [0, 1, 2, 3, 4, 5, 6, 7, 8, 9] rfl ?_
                  exact c_hh_n hnb hnbz hnn hvn hto hR hI hl4 hgl hgA hn hnl hF3 hJI hex hin hci hec ha ck (by unfold hhP; rw [if_neg cp]; exact if_neg (fun q => nomatch q.1)) (fun e9 M9 hF9 => c_hh_e hnb hnbz hnn hvn hto hR hI hl4 hgl hgA hn hnl (hex ▸ hF9) (by omega) ha (hZ.trans (hhQ_n e9)))
                · skip
                  exact absurd (by decide) h4
              | true =>
                have c4 : 1 ≤ c := by obtain ⟨-, -, c9, d1, d2, d3, d4, -⟩ := hJI; have r := (d4 rfl).1; simp only at d2; omega
                refine hz_iload (pc := 86) 4 (hz_dec kX11_hearHeaders 43 rfl) rfl ?_
                refine hz_eqi (pc := 88) (show _ = nI (en.length - 1) from rfl) ?_
                refine hz_z_lt (pc := 88) (tgt := 123) (hz_dec kX11_hearHeaders 44 rfl) (by decide) (by omega) ?_
                refine hz_aloadn (pc := 91) 6 (hz_dec kX11_hearHeaders 45 rfl) rfl ?_
                refine hz_get (pc := 92) (hz_dec kX11_hearHeaders 46 rfl) fo_X11_62 hH3 (by omega) (by omega) rfl ?_
                refine hz_get (pc := 95) (hz_dec kX11_hearHeaders 47 rfl) fo_X11_450 hml3.1 (by omega) (by omega) rfl ?_
                refine hz_iload (pc := 98) 2 (hz_dec kX11_hearHeaders 48 rfl) rfl ?_
                refine hz_aloadn (pc := 100) 6 (hz_dec kX11_hearHeaders 49 rfl) rfl ?_
                refine hz_get (pc := 101) (hz_dec kX11_hearHeaders 50 rfl) fo_X11_81 hH3 (by omega) (by omega) rfl ?_
                refine hz_bipush (pc := 104) (v := nI 32) (hz_dec kX11_hearHeaders 51 rfl) (by decide) ?_
                refine hz_iload (pc := 106) 5 (hz_dec kX11_hearHeaders 52 rfl) rfl ?_
                refine hz_iconst (pc := 108) (v := nI 1) (hz_dec kX11_hearHeaders 53 rfl) (by decide) ?_
                refine hz_subN (pc := 109) (hz_dec kX11_hearHeaders 54 rfl) (by omega) ?_
                refine hz_mulN (pc := 110) (hz_dec kX11_hearHeaders 55 rfl) ?_
                refine hz_bipush (pc := 111) (v := nI 32) (hz_dec kX11_hearHeaders 56 rfl) (by decide) ?_
                refine hz_xS (pc := 113) (As := [.ref 53, .int (nI (80 * i)), .ref 57, .int (nI (32 * (c - 1))), .int (nI 32)]) (st := []) (hz_dec kX11_hearHeaders 57 rfl) co_X11_530 sc_X0_same (c_same hgl3 (by decide) (by omega) (by decide) hg573 (by decide) (by omega) (by decide) (by omega) (by omega)) rfl (by decide) ⟨Nat.le_refl _, Nat.le_refl _⟩ (Nat.le_of_ble_eq_true rfl) rfl ?_
                have hsm : bn_sm gl (80 * i) g57 (32 * (c - 1)) 32 = smS (subL (hhd l i) 0 32) (subL a (32 * (c - 1)) 32) := by rw [smB_sm]; refine smS_of hAp ?_ (subL_len _ _ _) (subL_len _ _ _); have q := isA_sub (i := 32 * (c - 1)) (n := 32) hgA2 (by omega); rw [Nat.zero_add] at q; exact q
                have hal : a.length - 32 = 32 * (c - 1) := by omega
                rw [hsm]
                refine hz_if_eq (pc := 116) (tgt := 123) (hz_dec kX11_hearHeaders 58 rfl) (by decide) (fun h5 => ?_) (fun h5 => ?_)
                · skip
                  refine hz_pick (pc := 123) [0, 1, 2, 3, 4, 5, 6, 7, 8, 9] rfl ?_
                  exact c_hh_n hnb hnbz hnn hvn hto hR hI hl4 hgl hgA hn hnl hF3 hJI hex hin hci hec ha ck (by unfold hhP; rw [if_neg cp]; exact if_neg (fun q => of_decide_eq_false (hz_b0 h5) (hal ▸ q.2))) (fun e9 M9 hF9 => c_hh_e hnb hnbz hnn hvn hto hR hI hl4 hgl hgA hn hnl (hex ▸ hF9) (by omega) ha (hZ.trans (hhQ_n e9)))
                · skip
                  refine hz_iload (pc := 119) 4 (hz_dec kX11_hearHeaders 59 rfl) rfl ?_
                  refine hz_eqi (pc := 121) (show _ = nI (en.length - 1) from rfl) ?_
                  refine hz_istore (pc := 121) (i := 9) (lo2 := [(9, .int (nI (en.length - 1))), (8, .int (hz_b (wkS (hhd l i)))), (7, .int (nI (80 * i))), (6, .int (nI i)), (5, .int (hhL (en) true)), (4, .int (nI c)), (0, .ref 8), (1, .ref nb), (2, .int (nI n)), (3, .ref (nb + 21))]) (hz_dec kX11_hearHeaders 60 rfl) (by decide) rfl ?_
                  refine hz_pick (pc := 123) [0, 1, 2, 3, 4, 5, 6, 7, 8, 9] rfl ?_
                  exact c_hh_p hnb hnbz hnn hvn hto hR hI hl4 hgl hgA hn hnl hF3 hJI hex hin hci hec ha ck (by unfold hhP; rw [if_neg cp]; exact if_pos ⟨rfl, hal ▸ of_decide_eq_true (hz_b1 h5)⟩) h373 hfA (fun e9 M9 hF9 => c_hh_e hnb hnbz hnn hvn hto hR hI hl4 hgl hgA hn hnl (hex ▸ hF9) (by omega) ha (hZ.trans (hhQ_n e9))) (fun M9 e9 hF9 => ih (i + 1) _ true _ (c + 1) M9 _ (by omega) (by omega) hF9 (hhT_I hJI e9) (by rw [hex, List.append_assoc]) (by omega) (by rw [List.length_append, hec]; rfl) (by rw [List.length_append, hhH_len]; omega) (hZ.trans (hhQ_s e9)))
        · skip
          exact absurd (by decide) h2
set_option maxHeartbeats 4000000 in
set_option maxRecDepth 100000 in
theorem c_hHead {κ : hz_C} {z nb nn v tl : Nat} {tr now fr kn rc rf : Int32} {dl : Nat → Nat} (hnb : 63 ≤ nb) (hnbz : nb + 34 ≤ z) (hnn : nn ≤ 6) (hvn : v < nn) {d : Nat} (hto : (∃ b, b < nn ∧ fr = nI b ∧ d = dl (6 * v + b)) ∨ (fr < 0 ∧ d = 0)) {M : hz_M} {S : ks_S} {l : by_L} (hR : kcR M z nb nn v tl tr now fr kn rc rf (nI 1) dl l.length S) (hI : ksI S) (hl4 : l.length ≤ 4000) {gl : Nat → Int32} (hgl : M 53 = .inl (1, 4000, .inl gl)) (hgA : isA gl 0 l) {n : Nat} (hn : n ≤ 16) (hnl : 80 * n = l.length) {g57 : Nat → Int32} (h57 : M 57 = .inl (1, 1280, .inl g57)) : hz_Mt κ xX11_hearHeaders 5 0 0 [.ref 8, .ref nb, .int (nI n)] z M (fun r z2 M2 => none = r ∧ z = z2 ∧ frS [(10, 13), (21, 22), (37, 38), (45, 53), (57, 58), (nb + 26, nb + 30), (nb + 33, nb + 34)] M M2 ∧ kcR M2 z nb nn v tl tr now fr kn rc rf (nI 1) dl l.length (ksq S (hsQ now v fr d S l n)) ∧ ∃ g : Nat → Int32, M2 57 = .inl (1, 1280, .inl g)) := by
  refine hz_ent (lo := [(0, .ref 8), (1, .ref nb), (2, .int (nI n))]) (by decide) (Nat.le_of_ble_eq_true rfl) rfl ?_
  obtain ⟨hH, hNs, hN, ⟨gD, hD, hDX⟩, hT, hc, hp, hL, hJ, hml, ⟨g53, h53⟩, ⟨L58, h58⟩, g61, h61⟩ := id hR
  obtain ⟨i1, i2, i3, i4, i5⟩ := id hI
  have hz63 : 63 ≤ z := by omega
  have htop := i1.top
  refine hz_aloadn (pc := 0) 1 (hz_dec kX11_hearHeaders 0 rfl) rfl ?_
  refine hz_get (pc := 1) (hz_dec kX11_hearHeaders 1 rfl) fo_X11_104 hN (by omega) (by omega) rfl ?_
  refine hz_astoren (pc := 4) (i := 3) (lo2 := [(3, .ref (nb + 21)), (0, .ref 8), (1, .ref nb), (2, .int (nI n))]) (hz_dec kX11_hearHeaders 2 rfl) rfl (by decide) rfl ?_
  refine hz_iconst (pc := 5) (v := nI 0) (hz_dec kX11_hearHeaders 3 rfl) (by decide) ?_
  refine hz_istore (pc := 6) (i := 4) (lo2 := [(4, .int (nI 0)), (3, .ref (nb + 21)), (0, .ref 8), (1, .ref nb), (2, .int (nI n))]) (hz_dec kX11_hearHeaders 4 rfl) (by decide) rfl ?_
  refine hz_iconst (pc := 8) (v := (-1)) (hz_dec kX11_hearHeaders 5 rfl) (by decide) ?_
  refine hz_eqi (pc := 9) (show _ = hhL (enB (ksB S)) false from rfl) ?_
  refine hz_istore (pc := 9) (i := 5) (lo2 := [(5, .int (hhL (enB (ksB S)) false)), (4, .int (nI 0)), (3, .ref (nb + 21)), (0, .ref 8), (1, .ref nb), (2, .int (nI n))]) (hz_dec kX11_hearHeaders 6 rfl) (by decide) rfl ?_
  refine hz_iconst (pc := 11) (v := nI 0) (hz_dec kX11_hearHeaders 7 rfl) (by decide) ?_
  refine hz_istore (pc := 12) (i := 6) (lo2 := [(6, .int (nI 0)), (5, .int (hhL (enB (ksB S)) false)), (4, .int (nI 0)), (3, .ref (nb + 21)), (0, .ref 8), (1, .ref nb), (2, .int (nI n))]) (hz_dec kX11_hearHeaders 8 rfl) (by decide) rfl ?_
  refine hz_pick (pc := 14) [0, 1, 2, 4, 5, 6, 3] rfl ?_
  exact c_hh_l hnb hnbz hnn hvn hto hR hI hl4 hgl hgA hn hnl n 0 _ false [] 0 M [] rfl (Nat.zero_le _) ⟨frS.rf, hT, hJ, g57, h57, isA_nil _ _⟩ (hhI0 i1.2.2.2.2.1) (List.append_nil _).symm (Nat.le_refl _) (enB_len _) rfl rfl
