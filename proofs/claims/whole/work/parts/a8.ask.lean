/-! to ask: sendAsk, ask -/
theorem nI_sh {i b : Nat} (hi : i < 14) (hb : b = 2 ^ i) : nI 1 <<< (nI i &&& 31) = nI b := by
  rw [hb]
  exact (by decide +kernel : ∀ j, j < 14 → nI 1 <<< (nI j &&& 31) = nI (2 ^ j)) i hi
theorem isA_app {f : Nat → Int32} {a : Nat} {l m : by_L} (h : isA f a l) (h2 : isA f (a + l.length) m) : isA f a (l ++ m) := by
  intro j hj
  rw [List.length_append] at hj
  unfold lf
  rw [List.getD_eq_getElem?_getD]
  by_cases c : j < l.length
  · rw [List.getElem?_append_left c, ← List.getD_eq_getElem?_getD]
    exact h j c
  · rw [List.getElem?_append_right (by omega), ← List.getD_eq_getElem?_getD]
    have q := h2 (j - l.length) (by omega)
    rw [show a + l.length + (j - l.length) = a + j by omega] at q
    exact q
/-- the heights that are asked behind the tip's -/
def akH (h : Nat) : Nat → Nat → List Nat
  | 0, _ => []
  | m + 1, b => if b ≤ h then (h - b) :: akH h m (2 * b) else []
def lsH : List Nat → Nat
  | [] => 0
  | x :: l => match l with
    | [] => x
    | _ :: _ => lsH l
theorem lsH_c (x : Nat) : ∀ l, lsH (l ++ [x]) = x := by
  intro l
  induction l with
  | nil => rfl
  | cons a l ih =>
    cases l with
    | nil => rfl
    | cons b l => exact ih
theorem akH_no {h m b : Nat} (hb : h < b) : akH h m b = [] := by
  cases m with
  | zero => rfl
  | succ m => exact if_neg (by omega)
theorem akH_st {h m b : Nat} (hb : b ≤ h) : akH h (m + 1) b = (h - b) :: akH h m (2 * b) := if_pos hb
theorem akH_le {h : Nat} : ∀ m b, (akH h m b).length ≤ m ∧ ∀ x ∈ akH h m b, x ≤ h := by
  intro m
  induction m with
  | zero => intro b; exact ⟨Nat.le_refl _, fun x hx => absurd hx (List.not_mem_nil)⟩
  | succ m ih =>
    intro b
    unfold akH
    split
    · obtain ⟨q1, q2⟩ := ih (2 * b)
      refine ⟨by rw [List.length_cons]; omega, fun x hx => ?_⟩
      rcases List.mem_cons.mp hx with e | e
      · omega
      · exact q2 x e
    · exact ⟨Nat.zero_le _, fun x hx => absurd hx (List.not_mem_nil)⟩
def hsB (bl : List bk_B) (en : List en_E) (tip : Nat) (hs : List Nat) : by_L := hs.flatMap (fun h => haS (bBy bl (chE en tip h)))
theorem hsB_app (bl : List bk_B) (en : List en_E) (tip : Nat) (hs : List Nat) (x : Nat) : hsB bl en tip (hs ++ [x]) = hsB bl en tip hs ++ haS (bBy bl (chE en tip x)) := by
  unfold hsB
  rw [List.flatMap_append]
  simp
theorem hsB_len (bl : List bk_B) (en : List en_E) (tip : Nat) : ∀ hs : List Nat, (hsB bl en tip hs).length = 32 * hs.length := by
  intro hs
  induction hs with
  | nil => rfl
  | cons a l ih =>
    have e : hsB bl en tip (a :: l) = haS (bBy bl (chE en tip a)) ++ hsB bl en tip l := by unfold hsB; simp
    rw [e, List.length_append, haS_len, ih, List.length_cons]
    omega
/-- all heights that are asked -/
def akL (h : Nat) : List Nat := if lsH (h :: akH h 8 1) = 0 then h :: akH h 8 1 else h :: akH h 8 1 ++ [0]
def akT (bl : List bk_B) (en : List en_E) (tip : Nat) : by_L := hsB bl en tip (akL (eH en tip))
theorem akL_len (h : Nat) : (akL h).length ≤ 10 ∧ 1 ≤ (akL h).length := by
  have q := (akH_le (h := h) 8 1).1
  unfold akL
  split
  · rw [List.length_cons]; omega
  · rw [List.length_append, List.length_cons]; show _ + 1 ≤ 10 ∧ 1 ≤ _ + 1; omega
theorem akT_len (bl : List bk_B) (en : List en_E) (tip : Nat) : (akT bl en tip).length ≤ 320 := by
  unfold akT
  rw [hsB_len]
  have q := (akL_len (eH en tip)).1
  omega
theorem wfE.z {en : List en_E} (h : wfE en) (h0 : 0 < en.length) : eH en 0 = 0 := Nat.le_zero.mp (h.ht h0)
theorem wfE.z1 {en : List en_E} (h : wfE en) {k : Nat} (hk : k < en.length) (e : eH en k = 0) : k = 0 := by
  have w := h k hk
  cases hp : eP en k with
  | none => exact (w.2.1 hp).1
  | some p => have q := (w.1 p hp).2; omega
theorem chE_h {en : List en_E} (h : wfE en) {tip x : Nat} (ht : tip < en.length) (hx : x ≤ eH en tip) : chE en tip x ≤ tip ∧ eH en (chE en tip x) = x := by
  unfold chE
  have q := h.up ht (eH en tip - x) (by omega)
  omega
/-- no two stored blocks have one hash -/
def hdX (bl : List bk_B) : Prop := ∀ i j, i < bl.length → j < bl.length → haS (bBy bl i) = haS (bBy bl j) → i = j
theorem va_cpy_app {f g : Nat → Int32} {a : Nat} {l m : by_L} (h : isA g 0 l) (h2 : isA f a m) : isA (va_cpy f g a l.length m.length) 0 (l ++ m) := by
  refine isA_app (fun j hj => ?_) (fun j hj => ?_)
  · unfold va_cpy
    rw [if_neg (by omega)]
    exact h j hj
  · unfold va_cpy
    rw [if_pos (by omega), Nat.zero_add, Nat.add_sub_cancel_left]
    exact h2 j hj
set_option maxHeartbeats 4000000 in
set_option maxRecDepth 100000 in
theorem c_sAsk_e {κ : hz_C} {z : Nat} {M0 : hz_M} (hz : 63 ≤ z) {tl : Nat} {tr : Int32} (hH : M0 8 = hoO tl tr) {nn : Nat} (hnn : nn ≤ 6) {now : Int32} {dl : Nat → Nat} {ll : Nat} {fr kn : Int32} {nb v d : Nat} {up nx fu rc rf : Int32} (hN : M0 nb = ndO nb (nI v) up nx fu rc rf) (hnb : 63 ≤ nb) (hnbz : nb + 34 ≤ z) (hvn : v < nn) {bl : List bk_B} {tip : Nat} {en : List en_E} (hT : trR M0 (nb + 21) bl tip en) {s0 : mq_S} (hml : mlR M0 nn now s0 dl ll fr kn) (hto : (∃ b, b < nn ∧ fr = nI b ∧ d = dl (6 * v + b)) ∨ (fr < 0 ∧ d = 0)) {M : hz_M} (hfr : frS [(57, 58)] M0 M) {g : Nat → Int32} (h57 : M 57 = .inl (1, 1280, .inl g)) {hs : List Nat} (hg : isA g 0 (hsB bl en tip hs)) (hsl : hs.length ≤ 20) (hse : hs = akL (eH en tip)) : hz_W κ xX11_sendAsk 3 0 0 (fun r z2 M2 => none = r ∧ z = z2 ∧ frS [(45, 53), (57, 58)] M0 M2 ∧ (∃ g : Nat → Int32, M2 57 = .inl (1, 1280, .inl g)) ∧ mlR M2 nn now (sd1 now (nI v) fr (nI 2) d (akT bl en tip) s0) dl ll fr kn) 0 0 127 [(4, .int (nI (32 * hs.length))), (0, .ref 8), (1, .ref nb), (2, .ref (nb + 21))] [] z M := by
  have hTL : bl.length ≤ en.length ∧ wfE en ∧ bl.length ≤ 113 ∧ tip < bl.length := by obtain ⟨-, -, -, -, -, -, -, -, q1, q2, q3, q4, q5, q6⟩ := id hT; exact ⟨q2, q5, q1, q6⟩
  obtain ⟨hlen, hwf, hl113, htip⟩ := hTL
  obtain ⟨hT0, -, ⟨fh, hfh, hfhX⟩, ⟨fb, fht, ftm, fbi, hfb, hfht, hftm, hfbi, hEX⟩, -, -, ⟨fc, hfc, hfcX⟩, -⟩ := id hT
  have hte := hwf.ht (k := tip) (by omega)
  have hH1 := (hfr.at1 (q := 8) (by omega)).trans hH
  have hN1 := (hfr.at1 (q := nb) (by omega)).trans hN
  have hT1 := (hfr.at1 (q := nb + 21) (by omega)).trans hT0
  have hfh1 := (hfr.at1 (q := nb + 21 + 4) (by omega)).trans hfh
  have hfht1 := (hfr.at1 (q := nb + 21 + 6) (by omega)).trans hfht
  have hfc1 := (hfr.at1 (q := nb + 21 + 11) (by omega)).trans hfc
  have hml1 : mlR M nn now s0 dl ll fr kn := hml.fr (fun x q1 q2 q3 => hfr.at1 (by omega))
  obtain ⟨hO, hQ, hD⟩ := id hml1
  refine hz_aloadn (pc := 127) 1 (hz_dec kX11_sendAsk 67 rfl) rfl ?_
  refine hz_get (pc := 128) (hz_dec kX11_sendAsk 68 rfl) fo_X11_62 hH1 (by omega) (by omega) rfl ?_
  refine hz_aloadn (pc := 131) 2 (hz_dec kX11_sendAsk 69 rfl) rfl ?_
  refine hz_get (pc := 132) (hz_dec kX11_sendAsk 70 rfl) fo_X11_514 hN1 (by omega) (by omega) rfl ?_
  refine hz_aloadn (pc := 135) 1 (hz_dec kX11_sendAsk 71 rfl) rfl ?_
  refine hz_get (pc := 136) (hz_dec kX11_sendAsk 72 rfl) fo_X11_62 hH1 (by omega) (by omega) rfl ?_
  refine hz_get (pc := 139) (hz_dec kX11_sendAsk 73 rfl) fo_X11_299 hO (by omega) (by omega) rfl ?_
  refine hz_iconst (pc := 142) (v := nI 2) (hz_dec kX11_sendAsk 74 rfl) (by decide) ?_
  refine hz_aloadn (pc := 143) 1 (hz_dec kX11_sendAsk 75 rfl) rfl ?_
  refine hz_get (pc := 144) (hz_dec kX11_sendAsk 76 rfl) fo_X11_81 hH1 (by omega) (by omega) rfl ?_
  refine hz_iconst (pc := 147) (v := nI 0) (hz_dec kX11_sendAsk 77 rfl) (by decide) ?_
  refine hz_iload (pc := 148) 0 (hz_dec kX11_sendAsk 78 rfl) rfl ?_
  have hlen9 := hsB_len bl en tip hs
  have hd9 : d ≤ 9 := by rcases hto with ⟨b, q1, q2, q3⟩ | ⟨q1, q2⟩; obtain ⟨fd, -, hdX⟩ := id hD; rw [q3]; exact (hdX _ (by omega)).2; omega
  have hdl : hz_Mt κ xX5_delayOf 0 0 0 [.ref 45, .int (nI v), .int fr] z M (hz_ex (some (.int (nI d))) z M) := by
    rcases hto with ⟨b, q1, q2, q3⟩ | ⟨q1, q2⟩
    · rw [q2, q3]; exact c_dly hz hO hnn hD hvn q1
    · rw [q2]; exact c_dly0 hz hO hnn hD hvn q1
  have qa := c_send (κ := κ) hz hO hnn hQ h57 (by decide) (by omega) (by decide) (by decide) hg (by omega) (by omega) (kd := nI 2) hdl hd9
  rw [hlen9] at qa
  refine hz_callV (pc := 150) (a := 45) (As := [.int (nI v), .int fr, .int (nI 2), .ref 57, .int (nI 0), .int (nI (32 * hs.length))]) (st := []) (hz_dec kX11_sendAsk 79 rfl) co_X11_309 im_X5_send se_X5_send rfl hO (by omega) (by omega) (qa) rfl (by decide) ⟨Nat.le_refl _, Nat.le_refl _⟩ (Nat.le_of_ble_eq_true rfl) rfl (fun r9 z9 M2 hp9 => ?_)
  obtain ⟨rfl, rfl, hf2, hO2, hQ2⟩ := hp9
  refine hz_pop (pc := 153) (hz_dec kX11_sendAsk 80 rfl) rfl ?_
  refine hz_vret (pc := 154) (hz_dec kX11_sendAsk 81 rfl) rfl ⟨rfl, rfl, (hfr.mono (fun q hq => by simp only [outS, and_true] at hq ⊢; omega)).tr (hf2.mono (fun q hq => by simp only [outS, and_true] at hq ⊢; omega)), ⟨g, (hf2.at1 (by omega)).trans h57⟩, ?_⟩
  unfold akT sd1
  rw [← hse, hlen9]
  exact ⟨hO2, hQ2, by obtain ⟨fd, q1, q2⟩ := id hD; exact ⟨fd, (hf2.at1 (q := 54) (by omega)).trans q1, q2⟩⟩
set_option maxHeartbeats 4000000 in
set_option maxRecDepth 100000 in
theorem c_sAsk_l {κ : hz_C} {z : Nat} {M0 : hz_M} (hz : 63 ≤ z) {tl : Nat} {tr : Int32} (hH : M0 8 = hoO tl tr) {nn : Nat} (hnn : nn ≤ 6) {now : Int32} {dl : Nat → Nat} {ll : Nat} {fr kn : Int32} {nb v d : Nat} {up nx fu rc rf : Int32} (hN : M0 nb = ndO nb (nI v) up nx fu rc rf) (hnb : 63 ≤ nb) (hnbz : nb + 34 ≤ z) (hvn : v < nn) {bl : List bk_B} {tip : Nat} {en : List en_E} (hT : trR M0 (nb + 21) bl tip en) {s0 : mq_S} (hml : mlR M0 nn now s0 dl ll fr kn) (hto : (∃ b, b < nn ∧ fr = nI b ∧ d = dl (6 * v + b)) ∨ (fr < 0 ∧ d = 0)) : ∀ m i b la hs M (g : Nat → Int32), b = 2 ^ i → i + m = 8 → frS [(57, 58)] M0 M → M 57 = .inl (1, 1280, .inl g) → isA g 0 (hsB bl en tip hs) → la = lsH hs → la ≤ eH en tip → 1 ≤ b → eH en tip < b * 2 ^ m → b ≤ 256 → hs.length + m ≤ 9 → hs ++ akH (eH en tip) m b = eH en tip :: akH (eH en tip) 8 1 → hz_W κ xX11_sendAsk 3 0 0 (fun r z2 M2 => none = r ∧ z = z2 ∧ frS [(45, 53), (57, 58)] M0 M2 ∧ (∃ g : Nat → Int32, M2 57 = .inl (1, 1280, .inl g)) ∧ mlR M2 nn now (sd1 now (nI v) fr (nI 2) d (akT bl en tip) s0) dl ll fr kn) 0 0 46 [(6, .int (nI i)), (5, .int (nI la)), (4, .int (nI (32 * hs.length))), (3, .int (nI (eH en tip))), (0, .ref 8), (1, .ref nb), (2, .ref (nb + 21))] [] z M := by
  intro m
  induction m with
  | zero =>
    intro i b la hs M g hbi him hfr h57 hg hla hlh hb1 hbm hb2 hsl hse
    have hTL : bl.length ≤ en.length ∧ wfE en ∧ bl.length ≤ 113 ∧ tip < bl.length := by obtain ⟨-, -, -, -, -, -, -, -, q1, q2, q3, q4, q5, q6⟩ := id hT; exact ⟨q2, q5, q1, q6⟩
    obtain ⟨hlen, hwf, hl113, htip⟩ := hTL
    obtain ⟨hT0, -, ⟨fh, hfh, hfhX⟩, ⟨fb, fht, ftm, fbi, hfb, hfht, hftm, hfbi, hEX⟩, -, -, ⟨fc, hfc, hfcX⟩, -⟩ := id hT
    have hte := hwf.ht (k := tip) (by omega)
    have hH1 := (hfr.at1 (q := 8) (by omega)).trans hH
    have hN1 := (hfr.at1 (q := nb) (by omega)).trans hN
    have hT1 := (hfr.at1 (q := nb + 21) (by omega)).trans hT0
    have hfh1 := (hfr.at1 (q := nb + 21 + 4) (by omega)).trans hfh
    have hfht1 := (hfr.at1 (q := nb + 21 + 6) (by omega)).trans hfht
    have hfc1 := (hfr.at1 (q := nb + 21 + 11) (by omega)).trans hfc
    have hml1 : mlR M nn now s0 dl ll fr kn := hml.fr (fun x q1 q2 q3 => hfr.at1 (by omega))
    obtain ⟨hO, hQ, hD⟩ := id hml1
    have hse9 : hs = eH en tip :: akH (eH en tip) 8 1 := by rw [← hse]; exact (List.append_nil hs).symm
    refine hz_iload (pc := 46) 0 (hz_dec kX11_sendAsk 26 rfl) rfl ?_
    refine hz_bipush (pc := 48) (v := nI 14) (hz_dec kX11_sendAsk 27 rfl) (by decide) ?_
    refine hz_n_ge (pc := 50) (tgt := 103) (hz_dec kX11_sendAsk 28 rfl) (by decide) (by omega) (by omega) (fun h0 => ?_) (fun h0 => ?_)
    · skip
      exact absurd h0 (by omega)
    · skip
      refine hz_iconst (pc := 53) (v := nI 1) (hz_dec kX11_sendAsk 29 rfl) (by decide) ?_
      refine hz_iload (pc := 54) 0 (hz_dec kX11_sendAsk 30 rfl) rfl ?_
      refine hz_ishl (pc := 56) (hz_dec kX11_sendAsk 31 rfl) ?_
      refine hz_eqi (pc := 57) (nI_sh (i := i) (by omega) hbi) ?_
      refine hz_iloadn (pc := 57) 3 (hz_dec kX11_sendAsk 32 rfl) rfl ?_
      refine hz_n_gt (pc := 58) (tgt := 103) (hz_dec kX11_sendAsk 33 rfl) (by decide) (by omega) (by omega) (fun h1 => ?_) (fun h1 => ?_)
      · skip
        refine hz_iload (pc := 103) 1 (hz_dec kX11_sendAsk 56 rfl) rfl ?_
        refine hz_z_eq (pc := 105) (tgt := 127) (hz_dec kX11_sendAsk 57 rfl) (by decide) (by omega) (fun h9 => ?_) (fun h9 => ?_)
        · skip
          refine hz_pick (pc := 127) [2, 4, 5, 6] rfl ?_
          exact c_sAsk_e hz hH hnn hN hnb hnbz hvn hT hml hto hfr h57 hg (by omega) (by unfold akL; rw [← hse9, if_pos (by omega)])
        · skip
          refine hz_aloadn (pc := 108) 6 (hz_dec kX11_sendAsk 58 rfl) rfl ?_
          refine hz_get (pc := 109) (hz_dec kX11_sendAsk 59 rfl) fo_X11_244 hT1 (by omega) (by omega) rfl ?_
          refine hz_iconst (pc := 112) (v := nI 0) (hz_dec kX11_sendAsk 60 rfl) (by decide) ?_
          refine hz_aloadn (pc := 113) 4 (hz_dec kX11_sendAsk 61 rfl) rfl ?_
          refine hz_get (pc := 114) (hz_dec kX11_sendAsk 62 rfl) fo_X11_81 hH1 (by omega) (by omega) rfl ?_
          refine hz_iload (pc := 117) 2 (hz_dec kX11_sendAsk 63 rfl) rfl ?_
          refine hz_bipush (pc := 119) (v := nI 32) (hz_dec kX11_sendAsk 64 rfl) (by decide) ?_
          have hz0 : chE en tip 0 = 0 := by unfold chE; rw [Nat.sub_zero]; exact (hwf.top (k := tip) (by omega)).1
          have h0b : 0 < bl.length := by omega
          have hg0 := hfhX 0 h0b
          rw [Nat.mul_zero] at hg0
          have hlen9 := hsB_len bl en tip hs
          refine hz_xS (pc := 121) (As := [.ref (nb + 21 + 4), .int (nI 0), .ref 57, .int (nI (32 * hs.length)), .int (nI 32)]) (st := []) (hz_dec kX11_sendAsk 65 rfl) co_X11_231 sc_X0_copy (c_copy hfh1 (by omega) (by omega) (by decide) h57 (by decide) (by omega) (by decide) (by omega) (by omega)) rfl (by decide) ⟨Nat.le_refl _, Nat.le_refl _⟩ (Nat.le_of_ble_eq_true rfl) rfl ?_
          refine hz_iinc (pc := 124) (i := 4) (w := nI (32 * hs.length + 32)) (lo2 := [(4, .int (nI (32 * hs.length + 32))), (6, .int (nI i)), (5, .int (nI la)), (3, .int (nI (eH en tip))), (0, .ref 8), (1, .ref nb), (2, .ref (nb + 21))]) 2 (hz_dec kX11_sendAsk 66 rfl) rfl (nI_add _ 32) (by decide) rfl ?_
          have e32 : nI (32 * hs.length + 32) = nI (32 * (hs ++ [0]).length) := by rw [List.length_append]; rfl
          refine hz_pick (pc := 127) [0, 4, 5, 6] rfl ?_
          rw [e32]
          refine c_sAsk_e hz hH hnn hN hnb hnbz hvn hT hml hto (hfr.upr (by simp only [outS, and_true]; omega)) (va_up_self _ _ _) (hs := hs ++ [0]) ?_ (by rw [List.length_append]; show hs.length + 1 ≤ 20; omega) ?_
          · rw [hsB_app, hz0]
            have q := va_cpy_app (f := fh) (g := g) (a := 0) hg hg0
            rw [hlen9, haS_len] at q
            exact q
          · unfold akL
            rw [← hse9, if_neg (by omega)]
      · skip
        exact absurd h1 (by omega)
  | succ m ih =>
    intro i b la hs M g hbi him hfr h57 hg hla hlh hb1 hbm hb2 hsl hse
    have hTL : bl.length ≤ en.length ∧ wfE en ∧ bl.length ≤ 113 ∧ tip < bl.length := by obtain ⟨-, -, -, -, -, -, -, -, q1, q2, q3, q4, q5, q6⟩ := id hT; exact ⟨q2, q5, q1, q6⟩
    obtain ⟨hlen, hwf, hl113, htip⟩ := hTL
    obtain ⟨hT0, -, ⟨fh, hfh, hfhX⟩, ⟨fb, fht, ftm, fbi, hfb, hfht, hftm, hfbi, hEX⟩, -, -, ⟨fc, hfc, hfcX⟩, -⟩ := id hT
    have hte := hwf.ht (k := tip) (by omega)
    have hH1 := (hfr.at1 (q := 8) (by omega)).trans hH
    have hN1 := (hfr.at1 (q := nb) (by omega)).trans hN
    have hT1 := (hfr.at1 (q := nb + 21) (by omega)).trans hT0
    have hfh1 := (hfr.at1 (q := nb + 21 + 4) (by omega)).trans hfh
    have hfht1 := (hfr.at1 (q := nb + 21 + 6) (by omega)).trans hfht
    have hfc1 := (hfr.at1 (q := nb + 21 + 11) (by omega)).trans hfc
    have hml1 : mlR M nn now s0 dl ll fr kn := hml.fr (fun x q1 q2 q3 => hfr.at1 (by omega))
    obtain ⟨hO, hQ, hD⟩ := id hml1
    refine hz_iload (pc := 46) 0 (hz_dec kX11_sendAsk 26 rfl) rfl ?_
    refine hz_bipush (pc := 48) (v := nI 14) (hz_dec kX11_sendAsk 27 rfl) (by decide) ?_
    refine hz_n_ge (pc := 50) (tgt := 103) (hz_dec kX11_sendAsk 28 rfl) (by decide) (by omega) (by omega) (fun h0 => ?_) (fun h0 => ?_)
    · skip
      exact absurd h0 (by omega)
    · skip
      refine hz_iconst (pc := 53) (v := nI 1) (hz_dec kX11_sendAsk 29 rfl) (by decide) ?_
      refine hz_iload (pc := 54) 0 (hz_dec kX11_sendAsk 30 rfl) rfl ?_
      refine hz_ishl (pc := 56) (hz_dec kX11_sendAsk 31 rfl) ?_
      refine hz_eqi (pc := 57) (nI_sh (i := i) (by omega) hbi) ?_
      refine hz_iloadn (pc := 57) 3 (hz_dec kX11_sendAsk 32 rfl) rfl ?_
      refine hz_n_gt (pc := 58) (tgt := 103) (hz_dec kX11_sendAsk 33 rfl) (by decide) (by omega) (by omega) (fun h1 => ?_) (fun h1 => ?_)
      · skip
        have hse9 : hs = eH en tip :: akH (eH en tip) 8 1 := by rw [← hse, akH_no h1]; exact (List.append_nil hs).symm
        refine hz_iload (pc := 103) 1 (hz_dec kX11_sendAsk 56 rfl) rfl ?_
        refine hz_z_eq (pc := 105) (tgt := 127) (hz_dec kX11_sendAsk 57 rfl) (by decide) (by omega) (fun h9 => ?_) (fun h9 => ?_)
        · skip
          refine hz_pick (pc := 127) [2, 4, 5, 6] rfl ?_
          exact c_sAsk_e hz hH hnn hN hnb hnbz hvn hT hml hto hfr h57 hg (by omega) (by unfold akL; rw [← hse9, if_pos (by omega)])
        · skip
          refine hz_aloadn (pc := 108) 6 (hz_dec kX11_sendAsk 58 rfl) rfl ?_
          refine hz_get (pc := 109) (hz_dec kX11_sendAsk 59 rfl) fo_X11_244 hT1 (by omega) (by omega) rfl ?_
          refine hz_iconst (pc := 112) (v := nI 0) (hz_dec kX11_sendAsk 60 rfl) (by decide) ?_
          refine hz_aloadn (pc := 113) 4 (hz_dec kX11_sendAsk 61 rfl) rfl ?_
          refine hz_get (pc := 114) (hz_dec kX11_sendAsk 62 rfl) fo_X11_81 hH1 (by omega) (by omega) rfl ?_
          refine hz_iload (pc := 117) 2 (hz_dec kX11_sendAsk 63 rfl) rfl ?_
          refine hz_bipush (pc := 119) (v := nI 32) (hz_dec kX11_sendAsk 64 rfl) (by decide) ?_
          have hz0 : chE en tip 0 = 0 := by unfold chE; rw [Nat.sub_zero]; exact (hwf.top (k := tip) (by omega)).1
          have h0b : 0 < bl.length := by omega
          have hg0 := hfhX 0 h0b
          rw [Nat.mul_zero] at hg0
          have hlen9 := hsB_len bl en tip hs
          refine hz_xS (pc := 121) (As := [.ref (nb + 21 + 4), .int (nI 0), .ref 57, .int (nI (32 * hs.length)), .int (nI 32)]) (st := []) (hz_dec kX11_sendAsk 65 rfl) co_X11_231 sc_X0_copy (c_copy hfh1 (by omega) (by omega) (by decide) h57 (by decide) (by omega) (by decide) (by omega) (by omega)) rfl (by decide) ⟨Nat.le_refl _, Nat.le_refl _⟩ (Nat.le_of_ble_eq_true rfl) rfl ?_
          refine hz_iinc (pc := 124) (i := 4) (w := nI (32 * hs.length + 32)) (lo2 := [(4, .int (nI (32 * hs.length + 32))), (6, .int (nI i)), (5, .int (nI la)), (3, .int (nI (eH en tip))), (0, .ref 8), (1, .ref nb), (2, .ref (nb + 21))]) 2 (hz_dec kX11_sendAsk 66 rfl) rfl (nI_add _ 32) (by decide) rfl ?_
          have e32 : nI (32 * hs.length + 32) = nI (32 * (hs ++ [0]).length) := by rw [List.length_append]; rfl
          refine hz_pick (pc := 127) [0, 4, 5, 6] rfl ?_
          rw [e32]
          refine c_sAsk_e hz hH hnn hN hnb hnbz hvn hT hml hto (hfr.upr (by simp only [outS, and_true]; omega)) (va_up_self _ _ _) (hs := hs ++ [0]) ?_ (by rw [List.length_append]; show hs.length + 1 ≤ 20; omega) ?_
          · rw [hsB_app, hz0]
            have q := va_cpy_app (f := fh) (g := g) (a := 0) hg hg0
            rw [hlen9, haS_len] at q
            exact q
          · unfold akL
            rw [← hse9, if_neg (by omega)]
      · skip
        have hch := chE_h hwf (tip := tip) (x := eH en tip - b) (by omega) (by omega)
        have hlen9 := hsB_len bl en tip hs
        have hgc := hfhX (chE en tip (eH en tip - b)) (by omega)
        refine hz_iloadn (pc := 61) 3 (hz_dec kX11_sendAsk 34 rfl) rfl ?_
        refine hz_iconst (pc := 62) (v := nI 1) (hz_dec kX11_sendAsk 35 rfl) (by decide) ?_
        refine hz_iload (pc := 63) 0 (hz_dec kX11_sendAsk 36 rfl) rfl ?_
        refine hz_ishl (pc := 65) (hz_dec kX11_sendAsk 37 rfl) ?_
        refine hz_eqi (pc := 66) (nI_sh (i := i) (by omega) hbi) ?_
        refine hz_subN (pc := 66) (hz_dec kX11_sendAsk 38 rfl) (by omega) ?_
        refine hz_istore (pc := 67) (i := 5) (lo2 := [(5, .int (nI ((eH en tip) - b))), (6, .int (nI i)), (4, .int (nI (32 * hs.length))), (3, .int (nI (eH en tip))), (0, .ref 8), (1, .ref nb), (2, .ref (nb + 21))]) (hz_dec kX11_sendAsk 39 rfl) (by decide) rfl ?_
        refine hz_aloadn (pc := 69) 6 (hz_dec kX11_sendAsk 40 rfl) rfl ?_
        refine hz_get (pc := 70) (hz_dec kX11_sendAsk 41 rfl) fo_X11_244 hT1 (by omega) (by omega) rfl ?_
        refine hz_bipush (pc := 73) (v := nI 32) (hz_dec kX11_sendAsk 42 rfl) (by decide) ?_
        refine hz_aloadn (pc := 75) 6 (hz_dec kX11_sendAsk 43 rfl) rfl ?_
        refine hz_get (pc := 76) (hz_dec kX11_sendAsk 44 rfl) fo_X11_407 hT1 (by omega) (by omega) rfl ?_
        refine hz_iload (pc := 79) 0 (hz_dec kX11_sendAsk 45 rfl) rfl ?_
        refine hz_iald (pc := 81) (j := (eH en tip) - b) (hz_dec kX11_sendAsk 46 rfl) hfc1 (by omega) (by omega) rfl (by omega) (by omega) ?_
        refine hz_eqi (pc := 82) (hfcX ((eH en tip) - b) (by omega)) ?_
        refine hz_mulN (pc := 82) (hz_dec kX11_sendAsk 47 rfl) ?_
        refine hz_aloadn (pc := 83) 4 (hz_dec kX11_sendAsk 48 rfl) rfl ?_
        refine hz_get (pc := 84) (hz_dec kX11_sendAsk 49 rfl) fo_X11_81 hH1 (by omega) (by omega) rfl ?_
        refine hz_iload (pc := 87) 2 (hz_dec kX11_sendAsk 50 rfl) rfl ?_
        refine hz_bipush (pc := 89) (v := nI 32) (hz_dec kX11_sendAsk 51 rfl) (by decide) ?_
        refine hz_xS (pc := 91) (As := [.ref (nb + 21 + 4), .int (nI (32 * (chE en tip ((eH en tip) - b)))), .ref 57, .int (nI (32 * hs.length)), .int (nI 32)]) (st := []) (hz_dec kX11_sendAsk 52 rfl) co_X11_231 sc_X0_copy (c_copy hfh1 (by omega) (by omega) (by decide) h57 (by decide) (by omega) (by decide) (by omega) (by omega)) rfl (by decide) ⟨Nat.le_refl _, Nat.le_refl _⟩ (Nat.le_of_ble_eq_true rfl) rfl ?_
        refine hz_iinc (pc := 94) (i := 4) (w := nI (32 * hs.length + 32)) (lo2 := [(4, .int (nI (32 * hs.length + 32))), (5, .int (nI ((eH en tip) - b))), (6, .int (nI i)), (3, .int (nI (eH en tip))), (0, .ref 8), (1, .ref nb), (2, .ref (nb + 21))]) 2 (hz_dec kX11_sendAsk 53 rfl) rfl (nI_add _ 32) (by decide) rfl ?_
        refine hz_incN (pc := 97) (i := 6) (lo2 := [(6, .int (nI (i + 1))), (4, .int (nI (32 * hs.length + 32))), (5, .int (nI ((eH en tip) - b))), (3, .int (nI (eH en tip))), (0, .ref 8), (1, .ref nb), (2, .ref (nb + 21))]) 2 (hz_dec kX11_sendAsk 54 rfl) rfl (by decide) rfl ?_
        refine hz_goto (pc := 100) (tgt := 46) (hz_dec kX11_sendAsk 55 rfl) (by decide) ?_
        have e32 : nI (32 * hs.length + 32) = nI (32 * (hs ++ [eH en tip - b]).length) := by rw [List.length_append]; rfl
        refine hz_pick (pc := 46) [0, 2, 1, 3, 4, 5, 6] rfl ?_
        rw [e32]
        refine ih (i + 1) (2 * b) _ (hs ++ [eH en tip - b]) _ _ (by rw [hbi, Nat.pow_succ, Nat.mul_comm]) (by omega) (hfr.upr (by simp only [outS, and_true]; omega)) (va_up_self _ _ _) ?_ (lsH_c _ _).symm (by omega) (by omega) (by rw [Nat.pow_succ] at hbm; rw [Nat.mul_comm 2 b, Nat.mul_assoc, Nat.mul_comm 2]; exact hbm) (by omega) (by rw [List.length_append]; show hs.length + 1 + m ≤ 9; omega) ?_
        · rw [hsB_app]
          have q := va_cpy_app (f := fh) (g := g) hg hgc
          rw [hlen9, haS_len] at q
          exact q
        · rw [← hse, akH_st h1, List.append_assoc]
          rfl
set_option maxHeartbeats 4000000 in
set_option maxRecDepth 100000 in
theorem c_sAsk {κ : hz_C} {z : Nat} {M : hz_M} (hz : 63 ≤ z) {tl : Nat} {tr : Int32} (hH : M 8 = hoO tl tr) {nn : Nat} (hnn : nn ≤ 6) {now : Int32} {dl : Nat → Nat} {ll : Nat} {fr kn : Int32} {nb v d : Nat} {up nx fu rc rf : Int32} (hN : M nb = ndO nb (nI v) up nx fu rc rf) (hnb : 63 ≤ nb) (hnbz : nb + 34 ≤ z) (hvn : v < nn) {bl : List bk_B} {tip : Nat} {en : List en_E} (hT : trR M (nb + 21) bl tip en) {s0 : mq_S} (hml : mlR M nn now s0 dl ll fr kn) (hto : (∃ b, b < nn ∧ fr = nI b ∧ d = dl (6 * v + b)) ∨ (fr < 0 ∧ d = 0)) {g0 : Nat → Int32} (h57 : M 57 = .inl (1, 1280, .inl g0)) : hz_Mt κ xX11_sendAsk 3 0 0 [.ref 8, .ref nb] z M (fun r z2 M2 => none = r ∧ z = z2 ∧ frS [(45, 53), (57, 58)] M M2 ∧ (∃ g : Nat → Int32, M2 57 = .inl (1, 1280, .inl g)) ∧ mlR M2 nn now (sd1 now (nI v) fr (nI 2) d (akT bl en tip) s0) dl ll fr kn) := by
  refine hz_ent (lo := [(0, .ref 8), (1, .ref nb)]) (by decide) (Nat.le_of_ble_eq_true rfl) rfl ?_
  have hTL : bl.length ≤ en.length ∧ wfE en ∧ bl.length ≤ 113 ∧ tip < bl.length := by obtain ⟨-, -, -, -, -, -, -, -, q1, q2, q3, q4, q5, q6⟩ := id hT; exact ⟨q2, q5, q1, q6⟩
  obtain ⟨hlen, hwf, hl113, htip⟩ := hTL
  obtain ⟨hT0, -, ⟨fh, hfh, hfhX⟩, ⟨fb, fht, ftm, fbi, hfb, hfht, hftm, hfbi, hEX⟩, -, -, ⟨fc, hfc, hfcX⟩, -⟩ := id hT
  have hte := hwf.ht (k := tip) (by omega)
  refine hz_aloadn (pc := 0) 1 (hz_dec kX11_sendAsk 0 rfl) rfl ?_
  refine hz_get (pc := 1) (hz_dec kX11_sendAsk 1 rfl) fo_X11_104 hN (by omega) (by omega) rfl ?_
  refine hz_astoren (pc := 4) (i := 2) (lo2 := [(2, .ref (nb + 21)), (0, .ref 8), (1, .ref nb)]) (hz_dec kX11_sendAsk 2 rfl) rfl (by decide) rfl ?_
  refine hz_aloadn (pc := 5) 0 (hz_dec kX11_sendAsk 3 rfl) rfl ?_
  refine hz_get (pc := 6) (hz_dec kX11_sendAsk 4 rfl) fo_X11_241 hT0 (by omega) (by omega) rfl ?_
  refine hz_aloadn (pc := 9) 0 (hz_dec kX11_sendAsk 5 rfl) rfl ?_
  refine hz_get (pc := 10) (hz_dec kX11_sendAsk 6 rfl) fo_X11_235 hT0 (by omega) (by omega) rfl ?_
  refine hz_iald (pc := 13) (j := tip) (hz_dec kX11_sendAsk 7 rfl) hfht (by omega) (by omega) rfl (by omega) (by omega) ?_
  refine hz_eqi (pc := 14) (hEX (tip) (by omega)).2.1 ?_
  refine hz_istoren (pc := 14) (i := 3) (lo2 := [(3, .int (nI (eH en (tip)))), (2, .ref (nb + 21)), (0, .ref 8), (1, .ref nb)]) (hz_dec kX11_sendAsk 8 rfl) rfl (by decide) rfl ?_
  refine hz_bipush (pc := 15) (v := nI 32) (hz_dec kX11_sendAsk 9 rfl) (by decide) ?_
  refine hz_istore (pc := 17) (i := 4) (lo2 := [(4, .int (nI 32)), (3, .int (nI (eH en (tip)))), (2, .ref (nb + 21)), (0, .ref 8), (1, .ref nb)]) (hz_dec kX11_sendAsk 10 rfl) (by decide) rfl ?_
  refine hz_aloadn (pc := 19) 2 (hz_dec kX11_sendAsk 11 rfl) rfl ?_
  refine hz_get (pc := 20) (hz_dec kX11_sendAsk 12 rfl) fo_X11_244 hT0 (by omega) (by omega) rfl ?_
  refine hz_bipush (pc := 23) (v := nI 32) (hz_dec kX11_sendAsk 13 rfl) (by decide) ?_
  refine hz_aloadn (pc := 25) 2 (hz_dec kX11_sendAsk 14 rfl) rfl ?_
  refine hz_get (pc := 26) (hz_dec kX11_sendAsk 15 rfl) fo_X11_235 hT0 (by omega) (by omega) rfl ?_
  refine hz_mulN (pc := 29) (hz_dec kX11_sendAsk 16 rfl) ?_
  refine hz_aloadn (pc := 30) 3 (hz_dec kX11_sendAsk 17 rfl) rfl ?_
  refine hz_get (pc := 31) (hz_dec kX11_sendAsk 18 rfl) fo_X11_81 hH (by omega) (by omega) rfl ?_
  refine hz_iconst (pc := 34) (v := nI 0) (hz_dec kX11_sendAsk 19 rfl) (by decide) ?_
  refine hz_bipush (pc := 35) (v := nI 32) (hz_dec kX11_sendAsk 20 rfl) (by decide) ?_
  have hgc := hfhX tip htip
  refine hz_xS (pc := 37) (As := [.ref (nb + 21 + 4), .int (nI (32 * tip)), .ref 57, .int (nI 0), .int (nI 32)]) (st := []) (hz_dec kX11_sendAsk 21 rfl) co_X11_231 sc_X0_copy (c_copy hfh (by omega) (by omega) (by decide) h57 (by decide) (by omega) (by decide) (by omega) (by omega)) rfl (by decide) ⟨Nat.le_refl _, Nat.le_refl _⟩ (Nat.le_of_ble_eq_true rfl) rfl ?_
  refine hz_iloadn (pc := 40) 1 (hz_dec kX11_sendAsk 22 rfl) rfl ?_
  refine hz_istore (pc := 41) (i := 5) (lo2 := [(5, .int (nI (eH en (tip)))), (4, .int (nI 32)), (3, .int (nI (eH en (tip)))), (2, .ref (nb + 21)), (0, .ref 8), (1, .ref nb)]) (hz_dec kX11_sendAsk 23 rfl) (by decide) rfl ?_
  refine hz_iconst (pc := 43) (v := nI 0) (hz_dec kX11_sendAsk 24 rfl) (by decide) ?_
  refine hz_istore (pc := 44) (i := 6) (lo2 := [(6, .int (nI 0)), (5, .int (nI (eH en (tip)))), (4, .int (nI 32)), (3, .int (nI (eH en (tip)))), (2, .ref (nb + 21)), (0, .ref 8), (1, .ref nb)]) (hz_dec kX11_sendAsk 25 rfl) (by decide) rfl ?_
  refine hz_pick (pc := 46) [0, 1, 2, 3, 5, 6, 4] rfl ?_
  have e32 : nI 32 = nI (32 * [eH en tip].length) := rfl
  rw [e32]
  refine c_sAsk_l hz hH hnn hN hnb hnbz hvn hT hml hto 8 0 1 (eH en tip) [eH en tip] _ _ rfl rfl (frS.up (by simp only [outS, and_true]; omega)) (va_up_self _ _ _) ?_ rfl (Nat.le_refl _) (by omega) (by omega) (by omega) (Nat.le_refl 9) rfl
  have e1 : hsB bl en tip [eH en tip] = haS (bBy bl tip) := by unfold hsB chE; simp [upE]
  rw [e1]
  have q := va_cpy_app (f := fh) (g := g0) (l := []) (isA_nil _ _) hgc
  rw [haS_len] at q
  exact q
