/-! messages that are no block and no transaction: hear, receive -/
def rwU (kd : Nat) : Nat := if kd = 3 then 80 else 32
def rwO (u : Nat) (l : by_L) : Bool := decide (l.length % u = 0 ∧ u ≤ l.length ∧ l.length ≤ 16 * u)
def hrQ (now : Int32) (v : Nat) (fr : Int32) (d : Nat) (S : ks_S) (kd : Nat) (l : by_L) : mq_S := if rwO (rwU kd) l = true then (if kd = 1 then tdQ now v fr d S l (l.length / 32) else if kd = 2 then adQ now v fr d S l (l.length / 32) else if kd = 3 then hsQ now v fr d S l (l.length / 80) else gtQ now v fr d (ksB S) l (l.length / 32) (ksQ S)) else ksQ S
set_option maxHeartbeats 4000000 in
set_option maxRecDepth 100000 in
theorem c_hear1 {κ : hz_C} {z nb nn v tl : Nat} {tr now fr rc rf : Int32} {dl : Nat → Nat} (hnb : 63 ≤ nb) (hnbz : nb + 34 ≤ z) (hnn : nn ≤ 6) (hvn : v < nn) {d : Nat} (hto : (∃ b, b < nn ∧ fr = nI b ∧ d = dl (6 * v + b)) ∨ (fr < 0 ∧ d = 0)) {M : hz_M} {S : ks_S} {l : by_L} (hR : kcR M z nb nn v tl tr now fr (nI 1) rc rf (nI 1) dl l.length S) (hI : ksI S) (hl4 : l.length ≤ 4000) {gl : Nat → Int32} (hgl : M 53 = .inl (1, 4000, .inl gl)) (hgA : isA gl 0 l) {g57 : Nat → Int32} (h57 : M 57 = .inl (1, 1280, .inl g57)) : hz_Mt κ xX11_hear 6 0 0 [.ref 8, .ref nb] z M (fun r z2 M2 => some (.int (hz_b (!rwO (rwU 1) l))) = r ∧ z = z2 ∧ frS [(10, 13), (21, 22), (37, 38), (45, 53), (57, 58), (nb + 26, nb + 30), (nb + 33, nb + 34)] M M2 ∧ kcR M2 z nb nn v tl tr now fr (nI 1) rc rf (nI 1) dl l.length (ksq S (hrQ now v fr d S 1 l)) ∧ ∃ g : Nat → Int32, M2 57 = .inl (1, 1280, .inl g)) := by
  refine hz_ent (lo := [(0, .ref 8), (1, .ref nb)]) (by decide) (Nat.le_of_ble_eq_true rfl) rfl ?_
  obtain ⟨hH, hNs, hN, ⟨gD, hD, hDX⟩, hT, hc, hp, hL, hJ, hml, ⟨g53, h53⟩, ⟨L58, h58⟩, g61, h61⟩ := id hR
  have hu : rwU 1 = 32 := rfl
  refine hz_aloadn (pc := 0) 0 (hz_dec kX11_hear 0 rfl) rfl ?_
  refine hz_get (pc := 1) (hz_dec kX11_hear 1 rfl) fo_X11_62 hH (by omega) (by omega) rfl ?_
  refine hz_get (pc := 4) (hz_dec kX11_hear 2 rfl) fo_X11_330 hml.1 (by omega) (by omega) rfl ?_
  refine hz_iconst (pc := 7) (v := nI 3) (hz_dec kX11_hear 3 rfl) (by decide) ?_
  refine hz_n_ne (pc := 8) (tgt := 16) (hz_dec kX11_hear 4 rfl) (by decide) (by omega) (by omega) (fun h0 => ?_) (fun h0 => ?_)
  · skip
    refine hz_bipush (pc := 16) (v := nI 32) (hz_dec kX11_hear 7 rfl) (by decide) ?_
    refine hz_istoren (pc := 18) (i := 2) (lo2 := [(2, .int (nI 32)), (0, .ref 8), (1, .ref nb)]) (hz_dec kX11_hear 8 rfl) rfl (by decide) rfl ?_
    refine hz_aloadn (pc := 19) 1 (hz_dec kX11_hear 9 rfl) rfl ?_
    refine hz_get (pc := 20) (hz_dec kX11_hear 10 rfl) fo_X11_62 hH (by omega) (by omega) rfl ?_
    refine hz_get (pc := 23) (hz_dec kX11_hear 11 rfl) fo_X11_453 hml.1 (by omega) (by omega) rfl ?_
    refine hz_iloadn (pc := 26) 0 (hz_dec kX11_hear 12 rfl) rfl ?_
    refine hz_divN (pc := 27) (hz_dec kX11_hear 13 rfl) (by omega) (by decide) (by decide) ?_
    refine hz_istoren (pc := 28) (i := 3) (lo2 := [(3, .int (nI ((l.length) / 32))), (2, .int (nI 32)), (0, .ref 8), (1, .ref nb)]) (hz_dec kX11_hear 14 rfl) rfl (by decide) rfl ?_
    refine hz_iloadn (pc := 29) 0 (hz_dec kX11_hear 15 rfl) rfl ?_
    refine hz_iconst (pc := 30) (v := nI 1) (hz_dec kX11_hear 16 rfl) (by decide) ?_
    refine hz_n_lt (pc := 31) (tgt := 53) (hz_dec kX11_hear 17 rfl) (by decide) (by omega) (by omega) (fun h1 => ?_) (fun h1 => ?_)
    · skip
      have ew : rwO (rwU 1) l = false := by rw [hu]; exact decide_eq_false (fun q => by omega)
      have eQ : hrQ now v fr d S 1 l = ksQ S := by unfold hrQ; rw [ew]; rfl
      refine hz_iconst (pc := 53) (v := nI 1) (hz_dec kX11_hear 28 rfl) (by decide) ?_
      exact hz_iret (pc := 54) (hz_dec kX11_hear 29 rfl) rfl ⟨by rw [ew]; rfl, rfl, frS.rf, by rw [eQ]; exact hR, _, h57⟩
    · skip
      refine hz_iloadn (pc := 34) 0 (hz_dec kX11_hear 18 rfl) rfl ?_
      refine hz_bipush (pc := 35) (v := nI 16) (hz_dec kX11_hear 19 rfl) (by decide) ?_
      refine hz_n_gt (pc := 37) (tgt := 53) (hz_dec kX11_hear 20 rfl) (by decide) (by omega) (by omega) (fun h2 => ?_) (fun h2 => ?_)
      · skip
        have ew : rwO (rwU 1) l = false := by rw [hu]; exact decide_eq_false (fun q => by omega)
        have eQ : hrQ now v fr d S 1 l = ksQ S := by unfold hrQ; rw [ew]; rfl
        refine hz_iconst (pc := 53) (v := nI 1) (hz_dec kX11_hear 28 rfl) (by decide) ?_
        exact hz_iret (pc := 54) (hz_dec kX11_hear 29 rfl) rfl ⟨by rw [ew]; rfl, rfl, frS.rf, by rw [eQ]; exact hR, _, h57⟩
      · skip
        refine hz_iloadn (pc := 40) 0 (hz_dec kX11_hear 21 rfl) rfl ?_
        refine hz_iloadn (pc := 41) 1 (hz_dec kX11_hear 22 rfl) rfl ?_
        refine hz_mulN (pc := 42) (hz_dec kX11_hear 23 rfl) ?_
        refine hz_aloadn (pc := 43) 2 (hz_dec kX11_hear 24 rfl) rfl ?_
        refine hz_get (pc := 44) (hz_dec kX11_hear 25 rfl) fo_X11_62 hH (by omega) (by omega) rfl ?_
        refine hz_get (pc := 47) (hz_dec kX11_hear 26 rfl) fo_X11_453 hml.1 (by omega) (by omega) rfl ?_
        refine hz_n_eq (pc := 50) (tgt := 55) (hz_dec kX11_hear 27 rfl) (by decide) (by omega) (by omega) (fun h3 => ?_) (fun h3 => ?_)
        · skip
          have ew : rwO (rwU 1) l = true := by rw [hu]; exact decide_eq_true (by omega)
          refine hz_aloadn (pc := 55) 2 (hz_dec kX11_hear 30 rfl) rfl ?_
          refine hz_get (pc := 56) (hz_dec kX11_hear 31 rfl) fo_X11_62 hH (by omega) (by omega) rfl ?_
          refine hz_get (pc := 59) (hz_dec kX11_hear 32 rfl) fo_X11_330 hml.1 (by omega) (by omega) rfl ?_
          refine hz_swIn (pc := 62) (off := 26) (tgt := 88) (hz_dec kX11_hear 33 rfl) (by decide) (by decide) rfl (by decide) ?_
          refine hz_aloadn (pc := 88) 2 (hz_dec kX11_hear 34 rfl) rfl ?_
          refine hz_aloadn (pc := 89) 3 (hz_dec kX11_hear 35 rfl) rfl ?_
          refine hz_iloadn (pc := 90) 0 (hz_dec kX11_hear 36 rfl) rfl ?_
          refine hz_callV (pc := 91) (a := 8) (As := [.ref nb, .int (nI ((l.length) / 32))]) (st := []) (hz_dec kX11_hear 37 rfl) co_X11_516 im_X11_hearTold se_X11_hearTold rfl hH (by omega) (by omega) (c_hTold hnb hnbz hnn hvn hto hR hI hl4 hgl hgA h57 (by omega) (by omega)) rfl (by decide) ⟨Nat.le_refl _, Nat.le_refl _⟩ (Nat.le_of_ble_eq_true rfl) rfl (fun r9 z9 M2 hp9 => ?_)
          obtain ⟨rfl, rfl, hf2, hR2, h572⟩ := hp9
          have eQ : hrQ now v fr d S 1 l = tdQ now v fr d S l (l.length / 32) := by unfold hrQ; rw [if_pos ew]; rfl
          refine hz_goto (pc := 94) (tgt := 121) (hz_dec kX11_hear 38 rfl) (by decide) ?_
          refine hz_iconst (pc := 121) (v := nI 0) (hz_dec kX11_hear 53 rfl) (by decide) ?_
          exact hz_iret (pc := 122) (hz_dec kX11_hear 54 rfl) rfl ⟨by rw [ew]; rfl, rfl, (hf2.mono (fun q (h9 : outS [(10, 13), (21, 22), (37, 38), (45, 53), (57, 58), (nb + 26, nb + 30), (nb + 33, nb + 34)] q) => ⟨h9.2.2.2.1, h9.2.2.2.2.1, trivial⟩)), by rw [eQ]; exact hR2, h572⟩
        · skip
          have ew : rwO (rwU 1) l = false := by rw [hu]; exact decide_eq_false (fun q => by omega)
          have eQ : hrQ now v fr d S 1 l = ksQ S := by unfold hrQ; rw [ew]; rfl
          refine hz_iconst (pc := 53) (v := nI 1) (hz_dec kX11_hear 28 rfl) (by decide) ?_
          exact hz_iret (pc := 54) (hz_dec kX11_hear 29 rfl) rfl ⟨by rw [ew]; rfl, rfl, frS.rf, by rw [eQ]; exact hR, _, h57⟩
  · skip
    exact absurd h0 (by decide)
set_option maxHeartbeats 4000000 in
set_option maxRecDepth 100000 in
theorem c_hear2 {κ : hz_C} {z nb nn v tl : Nat} {tr now fr rc rf : Int32} {dl : Nat → Nat} (hnb : 63 ≤ nb) (hnbz : nb + 34 ≤ z) (hnn : nn ≤ 6) (hvn : v < nn) {d : Nat} (hto : (∃ b, b < nn ∧ fr = nI b ∧ d = dl (6 * v + b)) ∨ (fr < 0 ∧ d = 0)) {M : hz_M} {S : ks_S} {l : by_L} (hR : kcR M z nb nn v tl tr now fr (nI 2) rc rf (nI 1) dl l.length S) (hI : ksI S) (hl4 : l.length ≤ 4000) {gl : Nat → Int32} (hgl : M 53 = .inl (1, 4000, .inl gl)) (hgA : isA gl 0 l) {g57 : Nat → Int32} (h57 : M 57 = .inl (1, 1280, .inl g57)) : hz_Mt κ xX11_hear 6 0 0 [.ref 8, .ref nb] z M (fun r z2 M2 => some (.int (hz_b (!rwO (rwU 2) l))) = r ∧ z = z2 ∧ frS [(10, 13), (21, 22), (37, 38), (45, 53), (57, 58), (nb + 26, nb + 30), (nb + 33, nb + 34)] M M2 ∧ kcR M2 z nb nn v tl tr now fr (nI 2) rc rf (nI 1) dl l.length (ksq S (hrQ now v fr d S 2 l)) ∧ ∃ g : Nat → Int32, M2 57 = .inl (1, 1280, .inl g)) := by
  refine hz_ent (lo := [(0, .ref 8), (1, .ref nb)]) (by decide) (Nat.le_of_ble_eq_true rfl) rfl ?_
  obtain ⟨hH, hNs, hN, ⟨gD, hD, hDX⟩, hT, hc, hp, hL, hJ, hml, ⟨g53, h53⟩, ⟨L58, h58⟩, g61, h61⟩ := id hR
  have hu : rwU 2 = 32 := rfl
  refine hz_aloadn (pc := 0) 0 (hz_dec kX11_hear 0 rfl) rfl ?_
  refine hz_get (pc := 1) (hz_dec kX11_hear 1 rfl) fo_X11_62 hH (by omega) (by omega) rfl ?_
  refine hz_get (pc := 4) (hz_dec kX11_hear 2 rfl) fo_X11_330 hml.1 (by omega) (by omega) rfl ?_
  refine hz_iconst (pc := 7) (v := nI 3) (hz_dec kX11_hear 3 rfl) (by decide) ?_
  refine hz_n_ne (pc := 8) (tgt := 16) (hz_dec kX11_hear 4 rfl) (by decide) (by omega) (by omega) (fun h0 => ?_) (fun h0 => ?_)
  · skip
    refine hz_bipush (pc := 16) (v := nI 32) (hz_dec kX11_hear 7 rfl) (by decide) ?_
    refine hz_istoren (pc := 18) (i := 2) (lo2 := [(2, .int (nI 32)), (0, .ref 8), (1, .ref nb)]) (hz_dec kX11_hear 8 rfl) rfl (by decide) rfl ?_
    refine hz_aloadn (pc := 19) 1 (hz_dec kX11_hear 9 rfl) rfl ?_
    refine hz_get (pc := 20) (hz_dec kX11_hear 10 rfl) fo_X11_62 hH (by omega) (by omega) rfl ?_
    refine hz_get (pc := 23) (hz_dec kX11_hear 11 rfl) fo_X11_453 hml.1 (by omega) (by omega) rfl ?_
    refine hz_iloadn (pc := 26) 0 (hz_dec kX11_hear 12 rfl) rfl ?_
    refine hz_divN (pc := 27) (hz_dec kX11_hear 13 rfl) (by omega) (by decide) (by decide) ?_
    refine hz_istoren (pc := 28) (i := 3) (lo2 := [(3, .int (nI ((l.length) / 32))), (2, .int (nI 32)), (0, .ref 8), (1, .ref nb)]) (hz_dec kX11_hear 14 rfl) rfl (by decide) rfl ?_
    refine hz_iloadn (pc := 29) 0 (hz_dec kX11_hear 15 rfl) rfl ?_
    refine hz_iconst (pc := 30) (v := nI 1) (hz_dec kX11_hear 16 rfl) (by decide) ?_
    refine hz_n_lt (pc := 31) (tgt := 53) (hz_dec kX11_hear 17 rfl) (by decide) (by omega) (by omega) (fun h1 => ?_) (fun h1 => ?_)
    · skip
      have ew : rwO (rwU 2) l = false := by rw [hu]; exact decide_eq_false (fun q => by omega)
      have eQ : hrQ now v fr d S 2 l = ksQ S := by unfold hrQ; rw [ew]; rfl
      refine hz_iconst (pc := 53) (v := nI 1) (hz_dec kX11_hear 28 rfl) (by decide) ?_
      exact hz_iret (pc := 54) (hz_dec kX11_hear 29 rfl) rfl ⟨by rw [ew]; rfl, rfl, frS.rf, by rw [eQ]; exact hR, _, h57⟩
    · skip
      refine hz_iloadn (pc := 34) 0 (hz_dec kX11_hear 18 rfl) rfl ?_
      refine hz_bipush (pc := 35) (v := nI 16) (hz_dec kX11_hear 19 rfl) (by decide) ?_
      refine hz_n_gt (pc := 37) (tgt := 53) (hz_dec kX11_hear 20 rfl) (by decide) (by omega) (by omega) (fun h2 => ?_) (fun h2 => ?_)
      · skip
        have ew : rwO (rwU 2) l = false := by rw [hu]; exact decide_eq_false (fun q => by omega)
        have eQ : hrQ now v fr d S 2 l = ksQ S := by unfold hrQ; rw [ew]; rfl
        refine hz_iconst (pc := 53) (v := nI 1) (hz_dec kX11_hear 28 rfl) (by decide) ?_
        exact hz_iret (pc := 54) (hz_dec kX11_hear 29 rfl) rfl ⟨by rw [ew]; rfl, rfl, frS.rf, by rw [eQ]; exact hR, _, h57⟩
      · skip
        refine hz_iloadn (pc := 40) 0 (hz_dec kX11_hear 21 rfl) rfl ?_
        refine hz_iloadn (pc := 41) 1 (hz_dec kX11_hear 22 rfl) rfl ?_
        refine hz_mulN (pc := 42) (hz_dec kX11_hear 23 rfl) ?_
        refine hz_aloadn (pc := 43) 2 (hz_dec kX11_hear 24 rfl) rfl ?_
        refine hz_get (pc := 44) (hz_dec kX11_hear 25 rfl) fo_X11_62 hH (by omega) (by omega) rfl ?_
        refine hz_get (pc := 47) (hz_dec kX11_hear 26 rfl) fo_X11_453 hml.1 (by omega) (by omega) rfl ?_
        refine hz_n_eq (pc := 50) (tgt := 55) (hz_dec kX11_hear 27 rfl) (by decide) (by omega) (by omega) (fun h3 => ?_) (fun h3 => ?_)
        · skip
          have ew : rwO (rwU 2) l = true := by rw [hu]; exact decide_eq_true (by omega)
          refine hz_aloadn (pc := 55) 2 (hz_dec kX11_hear 30 rfl) rfl ?_
          refine hz_get (pc := 56) (hz_dec kX11_hear 31 rfl) fo_X11_62 hH (by omega) (by omega) rfl ?_
          refine hz_get (pc := 59) (hz_dec kX11_hear 32 rfl) fo_X11_330 hml.1 (by omega) (by omega) rfl ?_
          refine hz_swIn (pc := 62) (off := 35) (tgt := 97) (hz_dec kX11_hear 33 rfl) (by decide) (by decide) rfl (by decide) ?_
          refine hz_aloadn (pc := 97) 2 (hz_dec kX11_hear 39 rfl) rfl ?_
          refine hz_aloadn (pc := 98) 3 (hz_dec kX11_hear 40 rfl) rfl ?_
          refine hz_iloadn (pc := 99) 0 (hz_dec kX11_hear 41 rfl) rfl ?_
          refine hz_callV (pc := 100) (a := 8) (As := [.ref nb, .int (nI ((l.length) / 32))]) (st := []) (hz_dec kX11_hear 42 rfl) co_X11_519 im_X11_hearAsk se_X11_hearAsk rfl hH (by omega) (by omega) (c_hAsk hnb hnbz hnn hvn hto hR hI hl4 hgl hgA h57 (by omega) (by omega)) rfl (by decide) ⟨Nat.le_refl _, Nat.le_refl _⟩ (Nat.le_of_ble_eq_true rfl) rfl (fun r9 z9 M2 hp9 => ?_)
          obtain ⟨rfl, rfl, hf2, hR2, h572⟩ := hp9
          have eQ : hrQ now v fr d S 2 l = adQ now v fr d S l (l.length / 32) := by unfold hrQ; rw [if_pos ew]; rfl
          refine hz_goto (pc := 103) (tgt := 121) (hz_dec kX11_hear 43 rfl) (by decide) ?_
          refine hz_iconst (pc := 121) (v := nI 0) (hz_dec kX11_hear 53 rfl) (by decide) ?_
          exact hz_iret (pc := 122) (hz_dec kX11_hear 54 rfl) rfl ⟨by rw [ew]; rfl, rfl, (hf2.mono (fun q (h9 : outS [(10, 13), (21, 22), (37, 38), (45, 53), (57, 58), (nb + 26, nb + 30), (nb + 33, nb + 34)] q) => ⟨h9.2.2.2.1, h9.2.2.2.2.1, trivial⟩)), by rw [eQ]; exact hR2, h572⟩
        · skip
          have ew : rwO (rwU 2) l = false := by rw [hu]; exact decide_eq_false (fun q => by omega)
          have eQ : hrQ now v fr d S 2 l = ksQ S := by unfold hrQ; rw [ew]; rfl
          refine hz_iconst (pc := 53) (v := nI 1) (hz_dec kX11_hear 28 rfl) (by decide) ?_
          exact hz_iret (pc := 54) (hz_dec kX11_hear 29 rfl) rfl ⟨by rw [ew]; rfl, rfl, frS.rf, by rw [eQ]; exact hR, _, h57⟩
  · skip
    exact absurd h0 (by decide)
set_option maxHeartbeats 4000000 in
set_option maxRecDepth 100000 in
theorem c_hear3 {κ : hz_C} {z nb nn v tl : Nat} {tr now fr rc rf : Int32} {dl : Nat → Nat} (hnb : 63 ≤ nb) (hnbz : nb + 34 ≤ z) (hnn : nn ≤ 6) (hvn : v < nn) {d : Nat} (hto : (∃ b, b < nn ∧ fr = nI b ∧ d = dl (6 * v + b)) ∨ (fr < 0 ∧ d = 0)) {M : hz_M} {S : ks_S} {l : by_L} (hR : kcR M z nb nn v tl tr now fr (nI 3) rc rf (nI 1) dl l.length S) (hI : ksI S) (hl4 : l.length ≤ 4000) {gl : Nat → Int32} (hgl : M 53 = .inl (1, 4000, .inl gl)) (hgA : isA gl 0 l) {g57 : Nat → Int32} (h57 : M 57 = .inl (1, 1280, .inl g57)) : hz_Mt κ xX11_hear 6 0 0 [.ref 8, .ref nb] z M (fun r z2 M2 => some (.int (hz_b (!rwO (rwU 3) l))) = r ∧ z = z2 ∧ frS [(10, 13), (21, 22), (37, 38), (45, 53), (57, 58), (nb + 26, nb + 30), (nb + 33, nb + 34)] M M2 ∧ kcR M2 z nb nn v tl tr now fr (nI 3) rc rf (nI 1) dl l.length (ksq S (hrQ now v fr d S 3 l)) ∧ ∃ g : Nat → Int32, M2 57 = .inl (1, 1280, .inl g)) := by
  refine hz_ent (lo := [(0, .ref 8), (1, .ref nb)]) (by decide) (Nat.le_of_ble_eq_true rfl) rfl ?_
  obtain ⟨hH, hNs, hN, ⟨gD, hD, hDX⟩, hT, hc, hp, hL, hJ, hml, ⟨g53, h53⟩, ⟨L58, h58⟩, g61, h61⟩ := id hR
  have hu : rwU 3 = 80 := rfl
  refine hz_aloadn (pc := 0) 0 (hz_dec kX11_hear 0 rfl) rfl ?_
  refine hz_get (pc := 1) (hz_dec kX11_hear 1 rfl) fo_X11_62 hH (by omega) (by omega) rfl ?_
  refine hz_get (pc := 4) (hz_dec kX11_hear 2 rfl) fo_X11_330 hml.1 (by omega) (by omega) rfl ?_
  refine hz_iconst (pc := 7) (v := nI 3) (hz_dec kX11_hear 3 rfl) (by decide) ?_
  refine hz_n_ne (pc := 8) (tgt := 16) (hz_dec kX11_hear 4 rfl) (by decide) (by omega) (by omega) (fun h0 => ?_) (fun h0 => ?_)
  · skip
    exact absurd rfl h0
  · skip
    refine hz_bipush (pc := 11) (v := nI 80) (hz_dec kX11_hear 5 rfl) (by decide) ?_
    refine hz_goto (pc := 13) (tgt := 18) (hz_dec kX11_hear 6 rfl) (by decide) ?_
    refine hz_istoren (pc := 18) (i := 2) (lo2 := [(2, .int (nI 80)), (0, .ref 8), (1, .ref nb)]) (hz_dec kX11_hear 8 rfl) rfl (by decide) rfl ?_
    refine hz_aloadn (pc := 19) 1 (hz_dec kX11_hear 9 rfl) rfl ?_
    refine hz_get (pc := 20) (hz_dec kX11_hear 10 rfl) fo_X11_62 hH (by omega) (by omega) rfl ?_
    refine hz_get (pc := 23) (hz_dec kX11_hear 11 rfl) fo_X11_453 hml.1 (by omega) (by omega) rfl ?_
    refine hz_iloadn (pc := 26) 0 (hz_dec kX11_hear 12 rfl) rfl ?_
    refine hz_divN (pc := 27) (hz_dec kX11_hear 13 rfl) (by omega) (by decide) (by decide) ?_
    refine hz_istoren (pc := 28) (i := 3) (lo2 := [(3, .int (nI ((l.length) / 80))), (2, .int (nI 80)), (0, .ref 8), (1, .ref nb)]) (hz_dec kX11_hear 14 rfl) rfl (by decide) rfl ?_
    refine hz_iloadn (pc := 29) 0 (hz_dec kX11_hear 15 rfl) rfl ?_
    refine hz_iconst (pc := 30) (v := nI 1) (hz_dec kX11_hear 16 rfl) (by decide) ?_
    refine hz_n_lt (pc := 31) (tgt := 53) (hz_dec kX11_hear 17 rfl) (by decide) (by omega) (by omega) (fun h1 => ?_) (fun h1 => ?_)
    · skip
      have ew : rwO (rwU 3) l = false := by rw [hu]; exact decide_eq_false (fun q => by omega)
      have eQ : hrQ now v fr d S 3 l = ksQ S := by unfold hrQ; rw [ew]; rfl
      refine hz_iconst (pc := 53) (v := nI 1) (hz_dec kX11_hear 28 rfl) (by decide) ?_
      exact hz_iret (pc := 54) (hz_dec kX11_hear 29 rfl) rfl ⟨by rw [ew]; rfl, rfl, frS.rf, by rw [eQ]; exact hR, _, h57⟩
    · skip
      refine hz_iloadn (pc := 34) 0 (hz_dec kX11_hear 18 rfl) rfl ?_
      refine hz_bipush (pc := 35) (v := nI 16) (hz_dec kX11_hear 19 rfl) (by decide) ?_
      refine hz_n_gt (pc := 37) (tgt := 53) (hz_dec kX11_hear 20 rfl) (by decide) (by omega) (by omega) (fun h2 => ?_) (fun h2 => ?_)
      · skip
        have ew : rwO (rwU 3) l = false := by rw [hu]; exact decide_eq_false (fun q => by omega)
        have eQ : hrQ now v fr d S 3 l = ksQ S := by unfold hrQ; rw [ew]; rfl
        refine hz_iconst (pc := 53) (v := nI 1) (hz_dec kX11_hear 28 rfl) (by decide) ?_
        exact hz_iret (pc := 54) (hz_dec kX11_hear 29 rfl) rfl ⟨by rw [ew]; rfl, rfl, frS.rf, by rw [eQ]; exact hR, _, h57⟩
      · skip
        refine hz_iloadn (pc := 40) 0 (hz_dec kX11_hear 21 rfl) rfl ?_
        refine hz_iloadn (pc := 41) 1 (hz_dec kX11_hear 22 rfl) rfl ?_
        refine hz_mulN (pc := 42) (hz_dec kX11_hear 23 rfl) ?_
        refine hz_aloadn (pc := 43) 2 (hz_dec kX11_hear 24 rfl) rfl ?_
        refine hz_get (pc := 44) (hz_dec kX11_hear 25 rfl) fo_X11_62 hH (by omega) (by omega) rfl ?_
        refine hz_get (pc := 47) (hz_dec kX11_hear 26 rfl) fo_X11_453 hml.1 (by omega) (by omega) rfl ?_
        refine hz_n_eq (pc := 50) (tgt := 55) (hz_dec kX11_hear 27 rfl) (by decide) (by omega) (by omega) (fun h3 => ?_) (fun h3 => ?_)
        · skip
          have ew : rwO (rwU 3) l = true := by rw [hu]; exact decide_eq_true (by omega)
          refine hz_aloadn (pc := 55) 2 (hz_dec kX11_hear 30 rfl) rfl ?_
          refine hz_get (pc := 56) (hz_dec kX11_hear 31 rfl) fo_X11_62 hH (by omega) (by omega) rfl ?_
          refine hz_get (pc := 59) (hz_dec kX11_hear 32 rfl) fo_X11_330 hml.1 (by omega) (by omega) rfl ?_
          refine hz_swIn (pc := 62) (off := 44) (tgt := 106) (hz_dec kX11_hear 33 rfl) (by decide) (by decide) rfl (by decide) ?_
          refine hz_aloadn (pc := 106) 2 (hz_dec kX11_hear 44 rfl) rfl ?_
          refine hz_aloadn (pc := 107) 3 (hz_dec kX11_hear 45 rfl) rfl ?_
          refine hz_iloadn (pc := 108) 0 (hz_dec kX11_hear 46 rfl) rfl ?_
          refine hz_callV (pc := 109) (a := 8) (As := [.ref nb, .int (nI ((l.length) / 80))]) (st := []) (hz_dec kX11_hear 47 rfl) co_X11_522 im_X11_hearHeaders se_X11_hearHeaders rfl hH (by omega) (by omega) (c_hHead hnb hnbz hnn hvn hto hR hI hl4 hgl hgA (by omega) (by omega) h57) rfl (by decide) ⟨Nat.le_refl _, Nat.le_refl _⟩ (Nat.le_of_ble_eq_true rfl) rfl (fun r9 z9 M2 hp9 => ?_)
          obtain ⟨rfl, rfl, hf2, hR2, h572⟩ := hp9
          have eQ : hrQ now v fr d S 3 l = hsQ now v fr d S l (l.length / 80) := by unfold hrQ; rw [if_pos ew]; rfl
          refine hz_goto (pc := 112) (tgt := 121) (hz_dec kX11_hear 48 rfl) (by decide) ?_
          refine hz_iconst (pc := 121) (v := nI 0) (hz_dec kX11_hear 53 rfl) (by decide) ?_
          exact hz_iret (pc := 122) (hz_dec kX11_hear 54 rfl) rfl ⟨by rw [ew]; rfl, rfl, hf2, by rw [eQ]; exact hR2, h572⟩
        · skip
          have ew : rwO (rwU 3) l = false := by rw [hu]; exact decide_eq_false (fun q => by omega)
          have eQ : hrQ now v fr d S 3 l = ksQ S := by unfold hrQ; rw [ew]; rfl
          refine hz_iconst (pc := 53) (v := nI 1) (hz_dec kX11_hear 28 rfl) (by decide) ?_
          exact hz_iret (pc := 54) (hz_dec kX11_hear 29 rfl) rfl ⟨by rw [ew]; rfl, rfl, frS.rf, by rw [eQ]; exact hR, _, h57⟩
set_option maxHeartbeats 4000000 in
set_option maxRecDepth 100000 in
theorem c_hear4 {κ : hz_C} {z nb nn v tl : Nat} {tr now fr rc rf : Int32} {dl : Nat → Nat} (hnb : 63 ≤ nb) (hnbz : nb + 34 ≤ z) (hnn : nn ≤ 6) (hvn : v < nn) {d : Nat} (hto : (∃ b, b < nn ∧ fr = nI b ∧ d = dl (6 * v + b)) ∨ (fr < 0 ∧ d = 0)) {M : hz_M} {S : ks_S} {l : by_L} (hR : kcR M z nb nn v tl tr now fr (nI 4) rc rf (nI 1) dl l.length S) (hI : ksI S) (hl4 : l.length ≤ 4000) {gl : Nat → Int32} (hgl : M 53 = .inl (1, 4000, .inl gl)) (hgA : isA gl 0 l) {g57 : Nat → Int32} (h57 : M 57 = .inl (1, 1280, .inl g57)) : hz_Mt κ xX11_hear 6 0 0 [.ref 8, .ref nb] z M (fun r z2 M2 => some (.int (hz_b (!rwO (rwU 4) l))) = r ∧ z = z2 ∧ frS [(10, 13), (21, 22), (37, 38), (45, 53), (57, 58), (nb + 26, nb + 30), (nb + 33, nb + 34)] M M2 ∧ kcR M2 z nb nn v tl tr now fr (nI 4) rc rf (nI 1) dl l.length (ksq S (hrQ now v fr d S 4 l)) ∧ ∃ g : Nat → Int32, M2 57 = .inl (1, 1280, .inl g)) := by
  refine hz_ent (lo := [(0, .ref 8), (1, .ref nb)]) (by decide) (Nat.le_of_ble_eq_true rfl) rfl ?_
  obtain ⟨hH, hNs, hN, ⟨gD, hD, hDX⟩, hT, hc, hp, hL, hJ, hml, ⟨g53, h53⟩, ⟨L58, h58⟩, g61, h61⟩ := id hR
  have hu : rwU 4 = 32 := rfl
  refine hz_aloadn (pc := 0) 0 (hz_dec kX11_hear 0 rfl) rfl ?_
  refine hz_get (pc := 1) (hz_dec kX11_hear 1 rfl) fo_X11_62 hH (by omega) (by omega) rfl ?_
  refine hz_get (pc := 4) (hz_dec kX11_hear 2 rfl) fo_X11_330 hml.1 (by omega) (by omega) rfl ?_
  refine hz_iconst (pc := 7) (v := nI 3) (hz_dec kX11_hear 3 rfl) (by decide) ?_
  refine hz_n_ne (pc := 8) (tgt := 16) (hz_dec kX11_hear 4 rfl) (by decide) (by omega) (by omega) (fun h0 => ?_) (fun h0 => ?_)
  · skip
    refine hz_bipush (pc := 16) (v := nI 32) (hz_dec kX11_hear 7 rfl) (by decide) ?_
    refine hz_istoren (pc := 18) (i := 2) (lo2 := [(2, .int (nI 32)), (0, .ref 8), (1, .ref nb)]) (hz_dec kX11_hear 8 rfl) rfl (by decide) rfl ?_
    refine hz_aloadn (pc := 19) 1 (hz_dec kX11_hear 9 rfl) rfl ?_
    refine hz_get (pc := 20) (hz_dec kX11_hear 10 rfl) fo_X11_62 hH (by omega) (by omega) rfl ?_
    refine hz_get (pc := 23) (hz_dec kX11_hear 11 rfl) fo_X11_453 hml.1 (by omega) (by omega) rfl ?_
    refine hz_iloadn (pc := 26) 0 (hz_dec kX11_hear 12 rfl) rfl ?_
    refine hz_divN (pc := 27) (hz_dec kX11_hear 13 rfl) (by omega) (by decide) (by decide) ?_
    refine hz_istoren (pc := 28) (i := 3) (lo2 := [(3, .int (nI ((l.length) / 32))), (2, .int (nI 32)), (0, .ref 8), (1, .ref nb)]) (hz_dec kX11_hear 14 rfl) rfl (by decide) rfl ?_
    refine hz_iloadn (pc := 29) 0 (hz_dec kX11_hear 15 rfl) rfl ?_
    refine hz_iconst (pc := 30) (v := nI 1) (hz_dec kX11_hear 16 rfl) (by decide) ?_
    refine hz_n_lt (pc := 31) (tgt := 53) (hz_dec kX11_hear 17 rfl) (by decide) (by omega) (by omega) (fun h1 => ?_) (fun h1 => ?_)
    · skip
      have ew : rwO (rwU 4) l = false := by rw [hu]; exact decide_eq_false (fun q => by omega)
      have eQ : hrQ now v fr d S 4 l = ksQ S := by unfold hrQ; rw [ew]; rfl
      refine hz_iconst (pc := 53) (v := nI 1) (hz_dec kX11_hear 28 rfl) (by decide) ?_
      exact hz_iret (pc := 54) (hz_dec kX11_hear 29 rfl) rfl ⟨by rw [ew]; rfl, rfl, frS.rf, by rw [eQ]; exact hR, _, h57⟩
    · skip
      refine hz_iloadn (pc := 34) 0 (hz_dec kX11_hear 18 rfl) rfl ?_
      refine hz_bipush (pc := 35) (v := nI 16) (hz_dec kX11_hear 19 rfl) (by decide) ?_
      refine hz_n_gt (pc := 37) (tgt := 53) (hz_dec kX11_hear 20 rfl) (by decide) (by omega) (by omega) (fun h2 => ?_) (fun h2 => ?_)
      · skip
        have ew : rwO (rwU 4) l = false := by rw [hu]; exact decide_eq_false (fun q => by omega)
        have eQ : hrQ now v fr d S 4 l = ksQ S := by unfold hrQ; rw [ew]; rfl
        refine hz_iconst (pc := 53) (v := nI 1) (hz_dec kX11_hear 28 rfl) (by decide) ?_
        exact hz_iret (pc := 54) (hz_dec kX11_hear 29 rfl) rfl ⟨by rw [ew]; rfl, rfl, frS.rf, by rw [eQ]; exact hR, _, h57⟩
      · skip
        refine hz_iloadn (pc := 40) 0 (hz_dec kX11_hear 21 rfl) rfl ?_
        refine hz_iloadn (pc := 41) 1 (hz_dec kX11_hear 22 rfl) rfl ?_
        refine hz_mulN (pc := 42) (hz_dec kX11_hear 23 rfl) ?_
        refine hz_aloadn (pc := 43) 2 (hz_dec kX11_hear 24 rfl) rfl ?_
        refine hz_get (pc := 44) (hz_dec kX11_hear 25 rfl) fo_X11_62 hH (by omega) (by omega) rfl ?_
        refine hz_get (pc := 47) (hz_dec kX11_hear 26 rfl) fo_X11_453 hml.1 (by omega) (by omega) rfl ?_
        refine hz_n_eq (pc := 50) (tgt := 55) (hz_dec kX11_hear 27 rfl) (by decide) (by omega) (by omega) (fun h3 => ?_) (fun h3 => ?_)
        · skip
          have ew : rwO (rwU 4) l = true := by rw [hu]; exact decide_eq_true (by omega)
          refine hz_aloadn (pc := 55) 2 (hz_dec kX11_hear 30 rfl) rfl ?_
          refine hz_get (pc := 56) (hz_dec kX11_hear 31 rfl) fo_X11_62 hH (by omega) (by omega) rfl ?_
          refine hz_get (pc := 59) (hz_dec kX11_hear 32 rfl) fo_X11_330 hml.1 (by omega) (by omega) rfl ?_
          refine hz_swOut (pc := 62) (tgt := 115) (hz_dec kX11_hear 33 rfl) (by decide) (by decide) ?_
          refine hz_aloadn (pc := 115) 2 (hz_dec kX11_hear 49 rfl) rfl ?_
          refine hz_aloadn (pc := 116) 3 (hz_dec kX11_hear 50 rfl) rfl ?_
          refine hz_iloadn (pc := 117) 0 (hz_dec kX11_hear 51 rfl) rfl ?_
          refine hz_callV (pc := 118) (a := 8) (As := [.ref nb, .int (nI ((l.length) / 32))]) (st := []) (hz_dec kX11_hear 52 rfl) co_X11_525 im_X11_hearGet se_X11_hearGet rfl hH (by omega) (by omega) (c_hGet hnb hnbz hnn hvn hto hR hI hl4 hgl hgA (by omega) (by omega)) rfl (by decide) ⟨Nat.le_refl _, Nat.le_refl _⟩ (Nat.le_of_ble_eq_true rfl) rfl (fun r9 z9 M2 hp9 => ?_)
          obtain ⟨rfl, rfl, hf2, hR2⟩ := hp9
          have eQ : hrQ now v fr d S 4 l = gtQ now v fr d (ksB S) l (l.length / 32) (ksQ S) := by unfold hrQ; rw [if_pos ew]; rfl
          refine hz_iconst (pc := 121) (v := nI 0) (hz_dec kX11_hear 53 rfl) (by decide) ?_
          exact hz_iret (pc := 122) (hz_dec kX11_hear 54 rfl) rfl ⟨by rw [ew]; rfl, rfl, (hf2.mono (fun q (h9 : outS [(10, 13), (21, 22), (37, 38), (45, 53), (57, 58), (nb + 26, nb + 30), (nb + 33, nb + 34)] q) => ⟨h9.2.2.2.1, trivial⟩)), by rw [eQ]; exact hR2, _, (hf2.at1 (by omega)).trans h57⟩
        · skip
          have ew : rwO (rwU 4) l = false := by rw [hu]; exact decide_eq_false (fun q => by omega)
          have eQ : hrQ now v fr d S 4 l = ksQ S := by unfold hrQ; rw [ew]; rfl
          refine hz_iconst (pc := 53) (v := nI 1) (hz_dec kX11_hear 28 rfl) (by decide) ?_
          exact hz_iret (pc := 54) (hz_dec kX11_hear 29 rfl) rfl ⟨by rw [ew]; rfl, rfl, frS.rf, by rw [eQ]; exact hR, _, h57⟩
  · skip
    exact absurd h0 (by decide)
