/-! solve -/
theorem nar_b (c : Bool) : narrow .boolean (.int (hz_b c)) = .int (hz_b c) := by cases c <;> rfl
def nzT (T : by_L) (x : Int64) : by_L := cutL (fun j => if 72 ≤ j ∧ j < 80 then sb_b (byl x (j - 72)) else lf T j) 0 T.length
theorem nzT_len (T : by_L) (x : Int64) : (nzT T x).length = T.length := cutL_len _ _ _
theorem nzT_A {f g : Nat → Int32} {T : by_L} {x : Int64} (hf : isA f 0 T) (h1 : ∀ j, j < 8 → g (72 + j) = sb_b (byl x j)) (h2 : ∀ q, q < 72 ∨ 72 + 8 ≤ q → g q = f q) : isA g 0 (nzT T x) := by
  intro j hj
  rw [nzT_len] at hj
  have q := hf j hj
  rw [Nat.zero_add] at q ⊢
  rw [show lf (nzT T x) j = (fun j => if 72 ≤ j ∧ j < 80 then sb_b (byl x (j - 72)) else lf T j) (0 + j) from lf_cutL hj, Nat.zero_add]
  show g j = if 72 ≤ j ∧ j < 80 then sb_b (byl x (j - 72)) else lf T j
  by_cases c : 72 ≤ j ∧ j < 80
  · have e := h1 (j - 72) (by omega)
    rw [show 72 + (j - 72) = j by omega] at e
    rw [if_pos c, e]
  · rw [if_neg c, h2 j (by omega), q]
theorem nzT_i {T : by_L} {x : Int64} (h : 80 ≤ T.length) : bn_int (lf (nzT T x)) 68 = bn_int (lf T) 68 := by
  refine bn_int_c (fun i hi => ?_)
  rw [show lf (nzT T x) (68 + i) = (fun j => if 72 ≤ j ∧ j < 80 then sb_b (byl x (j - 72)) else lf T j) (0 + (68 + i)) from lf_cutL (by omega), Nat.zero_add]
  show bb (if 72 ≤ 68 + i ∧ 68 + i < 80 then sb_b (byl x (68 + i - 72)) else lf T (68 + i)) = _
  rw [if_neg (by omega)]
/-- does the header meet the target with this nonce -/
def slW (T : by_L) (x : Int64) (tg : Nat) : Bool := decide (bg (sh_2 (shS (hdS (nzT T x)))) 0 8 ≤ tg)
def slR (nn : Int64) (tg : Nat) : Nat → Nat → by_L → Int32 → by_L × Int32 × Int32
  | 0, _, T, e => (T, e, -4)
  | k + 1, i, T, e => if slW T (nn + (nI i).toInt64) tg = true then (nzT T (nn + (nI i).toInt64), e - nI 1, nI (i + 1)) else slR nn tg k (i + 1) (nzT T (nn + (nI i).toInt64)) (e - nI 1)
theorem slR_len {nn : Int64} {tg : Nat} : ∀ k i T e, (slR nn tg k i T e).1.length = T.length := by
  intro k
  induction k with
  | zero => intro i T e; rfl
  | succ k ih =>
    intro i T e
    unfold slR
    by_cases c : slW T (nn + (nI i).toInt64) tg = true
    · rw [if_pos c]; exact nzT_len _ _
    · rw [if_neg c, ih]; exact nzT_len _ _
set_option maxHeartbeats 4000000 in
set_option maxRecDepth 100000 in
theorem c_meetsW {κ : hz_C} {z : Nat} {M : hz_M} (hz : 63 ≤ z) {o1 : Value} {os_ : List Value} (hH : M 8 = .inr (11, .ref 9 :: o1 :: .ref 20 :: os_)) (hck : ck_k M z) (hcs : ck_s M) {wb : Int32} (h20 : M 20 = .inr (9, [.ref 21, .ref 22, .ref 23, .ref 24, .int wb])) {f21 : Nat → Int32} (h21 : M 21 = .inl (0, 8, .inl f21)) {tg : Nat} (htg : bg f21 0 8 = tg) {b n : Nat} {f : Nat → Int32} {T : by_L} (hB : M b = .inl (1, n, .inl f)) (hb8 : 39 ≤ b) (hbz : b < z) (hn : n < 2 ^ 24) (hA : isA f 0 T) (hT8 : 80 ≤ T.length) (hTn : T.length ≤ n) {x : Int64} : hz_Mt κ xX11_meetsWith 3 0 0 [.ref 8, .ref b, .long x] z M (fun r z2 M2 => some (.int (hz_b (slW T x tg))) = r ∧ z = z2 ∧ frS [(10, 13), (b, b + 1)] M M2 ∧ ck_s M2 ∧ ∃ g : Nat → Int32, M2 b = .inl (1, n, .inl g) ∧ isA g 0 (nzT T x)) := by
  refine hz_ent (lo := [(0, .ref 8), (1, .ref b), (2, .long x)]) (by decide) (Nat.le_of_ble_eq_true rfl) rfl ?_
  refine hz_aloadn (pc := 0) 1 (hz_dec kX11_meetsWith 0 rfl) rfl ?_
  refine hz_bipush (pc := 1) (v := nI 72) (hz_dec kX11_meetsWith 1 rfl) (by decide) ?_
  refine hz_lloadn (pc := 3) 2 (hz_dec kX11_meetsWith 2 rfl) rfl ?_
  refine hz_bipush (pc := 4) (v := nI 8) (hz_dec kX11_meetsWith 3 rfl) (by decide) ?_
  refine hz_xS (pc := 6) (As := [.ref b, .int (nI 72), .long x, .int (nI 8)]) (st := []) (hz_dec kX11_meetsWith 4 rfl) co_X11_127 sc_X0_put (c_put (at_ := 72) (mn := 8) (v := x) hB (by omega) (by omega) (by omega) (by omega)) rfl (by decide) ⟨Nat.le_refl _, Nat.le_refl _⟩ (Nat.le_of_ble_eq_true rfl) rfl ?_
  have hA1 : isA (bn_put 72 8 x f) 0 (nzT T x) := nzT_A hA (fun j hj => bn_put_l hj) (fun q hq => bn_put_out _ _ _ _ hq)
  have hf1 : frS [(10, 13), (b, b + 1)] M (va_up M b (.inl (1, n, .inl (bn_put 72 8 x f)))) := frS.rf.upr (by simp only [outS, and_true]; omega)
  have hB1 : (va_up M b (.inl (1, n, .inl (bn_put 72 8 x f)))) b = .inl (1, n, .inl (bn_put 72 8 x f)) := va_up_self _ _ _
  have hck1 : ck_k (va_up M b (.inl (1, n, .inl (bn_put 72 8 x f)))) z := hck.up (by omega)
  have hcs1 : ck_s (va_up M b (.inl (1, n, .inl (bn_put 72 8 x f)))) := hcs.up (by omega)
  have hH1 : (va_up M b (.inl (1, n, .inl (bn_put 72 8 x f)))) 8 = _ := hz_mne hH (by omega)
  have h201 : (va_up M b (.inl (1, n, .inl (bn_put 72 8 x f)))) 20 = _ := hz_mne h20 (by omega)
  have h211 : (va_up M b (.inl (1, n, .inl (bn_put 72 8 x f)))) 21 = _ := hz_mne h21 (by omega)
  generalize (va_up M b (.inl (1, n, .inl (bn_put 72 8 x f)))) = M1 at *
  refine hz_aloadn (pc := 9) 0 (hz_dec kX11_meetsWith 5 rfl) rfl ?_
  refine hz_get (pc := 10) (hz_dec kX11_meetsWith 6 rfl) fo_X11_21 hH1 (by omega) (by omega) rfl ?_
  refine hz_aloadn (pc := 13) 1 (hz_dec kX11_meetsWith 7 rfl) rfl ?_
  refine hz_iconst (pc := 14) (v := nI 0) (hz_dec kX11_meetsWith 8 rfl) (by decide) ?_
  refine hz_bipush (pc := 15) (v := nI 80) (hz_dec kX11_meetsWith 9 rfl) (by decide) ?_
  refine hz_callV (pc := 17) (a := 9) (As := [.ref b, .int (nI 0), .int (nI 80)]) (st := []) (hz_dec kX11_meetsWith 10 rfl) co_X11_133 im_X8_digest se_X8_digest rfl hck1.1 (by omega) (by omega) (c_digF hck1 hcs1 (at_ := 0) (n := 80) hB1 (by omega) (by omega) (by omega) (by omega)) rfl (by decide) ⟨Nat.le_refl _, Nat.le_refl _⟩ (Nat.le_of_ble_eq_true rfl) rfl (fun r9 z9 M2 hp9 => ?_)
  obtain ⟨rfl, rfl, hf2, hs2, v2, w2, x2⟩ := hp9
  have e80 := shS_of (hdS_A hA1 (by rw [nzT_len]; exact hT8)) (hdS_len (nzT T x))
  rw [e80] at x2
  have hck2 : ck_k M2 z := hck1.fr hf2 rfl rfl
  have hH2 := (hf2.z 8 rfl).trans hH1
  refine hz_aloadn (pc := 20) 0 (hz_dec kX11_meetsWith 11 rfl) rfl ?_
  refine hz_get (pc := 21) (hz_dec kX11_meetsWith 12 rfl) fo_X11_21 hH2 (by omega) (by omega) rfl ?_
  refine hz_callV (pc := 24) (a := 9) (As := []) (st := []) (hz_dec kX11_meetsWith 13 rfl) co_X11_137 im_X8_again se_X8_again rfl hck2.1 (by omega) (by omega) (c_agF hck2 hs2 w2) rfl (by decide) ⟨Nat.le_refl _, Nat.le_refl _⟩ (Nat.le_of_ble_eq_true rfl) rfl (fun r9 z9 M3 hp9 => ?_)
  obtain ⟨rfl, rfl, hf3, hs3, v3, w3, x3⟩ := hp9
  have e2 := sh_2_c x2
  rw [e2] at x3
  have hck3 : ck_k M3 z := hck2.fr hf3 rfl rfl
  have hH3 := (hf3.z 8 rfl).trans hH2
  have h203 := ((hf3.z 20 rfl).trans (hf2.z 20 rfl)).trans h201
  have h213 := ((hf3.z 21 rfl).trans (hf2.z 21 rfl)).trans h211
  have hB3 := (hf3.zany (a := b) (fun o9 h9 c => by rw [← c] at h9; exact absurd (of_decide_eq_true (List.all_eq_true.mp (show [10, 11, 12].all (fun o => decide (o < 39)) = true from rfl) b h9)) (by omega))).trans ((hf2.zany (a := b) (fun o9 h9 c => by rw [← c] at h9; exact absurd (of_decide_eq_true (List.all_eq_true.mp (show [10, 11].all (fun o => decide (o < 39)) = true from rfl) b h9)) (by omega))).trans hB1)
  refine hz_aloadn (pc := 27) 0 (hz_dec kX11_meetsWith 14 rfl) rfl ?_
  refine hz_get (pc := 28) (hz_dec kX11_meetsWith 15 rfl) fo_X11_37 hH3 (by omega) (by omega) rfl ?_
  refine hz_aloadn (pc := 31) 0 (hz_dec kX11_meetsWith 16 rfl) rfl ?_
  refine hz_get (pc := 32) (hz_dec kX11_meetsWith 17 rfl) fo_X11_21 hH3 (by omega) (by omega) rfl ?_
  refine hz_get (pc := 35) (hz_dec kX11_meetsWith 18 rfl) fo_X11_437 hck3.1 (by omega) (by omega) rfl ?_
  refine hz_xV (pc := 38) (a := 20) (As := [.ref 10]) (st := []) (hz_dec kX11_meetsWith 19 rfl) co_X11_440 im_X9_isMetBy se_X9_isMetBy rfl h203 (by omega) (by omega) (c_isMet h203 (by omega) h213 w3 (by decide) (by omega) (by decide) (by decide)) rfl (by decide) ⟨Nat.le_refl _, Nat.le_refl _⟩ (Nat.le_of_ble_eq_true rfl) rfl ?_
  exact hz_zret (pc := 41) (hz_dec kX11_meetsWith 20 rfl) rfl (nar_b _) ⟨by rw [bg_c0 x3, htg]; rfl, rfl, (hf1.tr (hf2.S0 rfl)).tr (hf3.S0 rfl), hs3, _, hB3, hA1⟩
theorem juS.sl {M M2 : hz_M} {z b : Nat} (h : juS M z) (f : frS [(10, 13), (b, b + 1)] M M2) (hb : 39 ≤ b) (hs : ck_s M2) : juS M2 z := by
  obtain ⟨⟨bf, fe, hj⟩, -⟩ := id h
  have hk : ck_k M z := h.2.2.2.2.2.2.2.1
  exact h.fr (fun q q1 q2 q3 => f.at2 (by omega)) (hk.fs (f.at2 (by omega)) (f.at2 (by omega))) hs (bf := bf) (fe := fe) ((f.at2 (by omega)).trans hj)
set_option maxHeartbeats 4000000 in
set_option maxRecDepth 100000 in
theorem c_sol_l {κ : hz_C} {z : Nat} {M0 : hz_M} {H : ho_H} (hz : 63 + 34 * (hoN H).length ≤ z) (hnn : (hoN H).length ≤ 6) {nn : Int64} {n tg L : Nat} (hn2 : n ≤ 2000) (hL8 : 80 ≤ L) (hL4 : L ≤ 4000) {R : by_L × Int32 × Int32} : ∀ k i T e M ll fr kn, k = n - i → i ≤ n → T.length = L → frS [(8, 63 + 34 * (hoN H).length)] M0 M → hcR M z (hot H T e) ll fr kn → (∃ f21 : Nat → Int32, M 21 = .inl (0, 8, .inl f21) ∧ bg f21 0 8 = tg) → R = slR nn tg k i T e → hz_W κ xX11_solve 4 0 0 (fun r z2 M3 => some (.int R.2.2) = r ∧ z = z2 ∧ frS [(8, 63 + 34 * (hoN H).length)] M0 M3 ∧ ∃ (ll : Nat) (fr kn : Int32), hcR M3 z (hot H R.1 R.2.1) ll fr kn) 0 0 69 [(5, .int (nI (i + 1))), (0, .ref 8), (1, .long nn), (3, .int (nI n))] [] z M := by
  intro k
  induction k with
  | zero =>
    intro i T e M ll fr kn hk hi hTL hf hR h21 hE
    refine hz_iload (pc := 69) 0 (hz_dec kX11_solve 36 rfl) rfl ?_
    refine hz_iloadn (pc := 71) 3 (hz_dec kX11_solve 37 rfl) rfl ?_
    refine hz_n_gt (pc := 72) (tgt := 112) (hz_dec kX11_solve 38 rfl) (by decide) (by omega) (by omega) (fun h1 => ?_) (fun h1 => ?_)
    · skip
      have e2 : R = (T, e, -4) := hE
      refine hz_bipush (pc := 112) (v := (-4)) (hz_dec kX11_solve 60 rfl) (by decide) ?_
      exact hz_iret (pc := 114) (hz_dec kX11_solve 61 rfl) rfl ⟨by rw [e2], rfl, hf, ll, fr, kn, by rw [e2]; exact hR⟩
    · skip
      exact absurd h1 (by omega)
  | succ k ih =>
    intro i T e M ll fr kn hk hi hTL hf hR h21 hE
    obtain ⟨f21, h21, htg⟩ := h21
    have hH := hR.1
    obtain ⟨g56, h56, hT56⟩ := hR.2.2.2.2.2.2.2.2.2.1
    have hz63 : 63 ≤ z := by omega
    refine hz_iload (pc := 69) 0 (hz_dec kX11_solve 36 rfl) rfl ?_
    refine hz_iloadn (pc := 71) 3 (hz_dec kX11_solve 37 rfl) rfl ?_
    refine hz_n_gt (pc := 72) (tgt := 112) (hz_dec kX11_solve 38 rfl) (by decide) (by omega) (by omega) (fun h1 => ?_) (fun h1 => ?_)
    · skip
      exact absurd h1 (by omega)
    · skip
      refine hz_aloadn (pc := 75) 1 (hz_dec kX11_solve 39 rfl) rfl ?_
      refine hz_dup (pc := 76) (hz_dec kX11_solve 40 rfl) rfl ?_
      refine hz_get (pc := 77) (hz_dec kX11_solve 41 rfl) fo_X11_77 hH (by omega) (by omega) rfl ?_
      refine hz_iconst (pc := 80) (v := nI 1) (hz_dec kX11_solve 42 rfl) (by decide) ?_
      refine hz_isub (pc := 81) (hz_dec kX11_solve 43 rfl) ?_
      refine hz_puti (pc := 82) (hz_dec kX11_solve 44 rfl) fo_X11_77 ft_X11_9 hH (by omega) (by omega) (Nat.le_of_ble_eq_true rfl) ?_
      refine hz_mem (pc := 85) (M2 := (va_up M 8 (.inr (11, [.ref 9, .ref 13, .ref 20, .ref 25, .ref 39, .ref 45, .ref 55, .ref 56, .int (nI (T.length)), .int ((e) - (nI (1))), .ref 57, .ref 58, .ref 61])))) rfl ?_
      have hf1 : frS [(8, 9), (56, 57)] M (va_up M 8 (.inr (11, [.ref 9, .ref 13, .ref 20, .ref 25, .ref 39, .ref 45, .ref 55, .ref 56, .int (nI (T.length)), .int ((e) - (nI (1))), .ref 57, .ref 58, .ref 61]))) := ((frS.rf (S := [(8, 9), (56, 57)])).upr (a := 8) (by simp only [outS, and_true]; omega))
      have hR1 : hcR (va_up M 8 (.inr (11, [.ref 9, .ref 13, .ref 20, .ref 25, .ref 39, .ref 45, .ref 55, .ref 56, .int (nI (T.length)), .int ((e) - (nI (1))), .ref 57, .ref 58, .ref 61]))) z (hot H T (e - nI 1)) ll fr kn := hR.t hf1 (va_up_self _ _ _) ⟨g56, hz_mne h56 (by decide), hT56⟩
      have h211 : (va_up M 8 (.inr (11, [.ref 9, .ref 13, .ref 20, .ref 25, .ref 39, .ref 45, .ref 55, .ref 56, .int (nI (T.length)), .int ((e) - (nI (1))), .ref 57, .ref 58, .ref 61]))) 21 = _ := hz_mne h21 (by decide)
      have hf01 : frS [(8, 63 + 34 * (hoN H).length)] M0 (va_up M 8 (.inr (11, [.ref 9, .ref 13, .ref 20, .ref 25, .ref 39, .ref 45, .ref 55, .ref 56, .int (nI (T.length)), .int ((e) - (nI (1))), .ref 57, .ref 58, .ref 61]))) := hf.tr (hf1.mono (fun q (h9 : outS [(8, 63 + 34 * (hoN H).length)] q) => ⟨by have r := h9.1; omega, by have r := h9.1; omega, trivial⟩))
      generalize (va_up M 8 (.inr (11, [.ref 9, .ref 13, .ref 20, .ref 25, .ref 39, .ref 45, .ref 55, .ref 56, .int (nI (T.length)), .int ((e) - (nI (1))), .ref 57, .ref 58, .ref 61]))) = M1 at *
      have hH1 := hR1.1
      obtain ⟨g1, h561, hT561⟩ := hR1.2.2.2.2.2.2.2.2.2.1
      have hJ1 := hR1.2.2.2.1
      have hck1 : ck_k M1 z := hJ1.2.2.2.2.2.2.2.1
      have hcs1 : ck_s M1 := hJ1.2.2.2.2.2.2.2.2.1
      obtain ⟨wb, h201, -⟩ := id hJ1.2.2.2.2.2.2.2.2.2
      refine hz_aloadn (pc := 85) 1 (hz_dec kX11_solve 45 rfl) rfl ?_
      refine hz_aloadn (pc := 86) 1 (hz_dec kX11_solve 46 rfl) rfl ?_
      refine hz_get (pc := 87) (hz_dec kX11_solve 47 rfl) fo_X11_72 hH1 (by omega) (by omega) rfl ?_
      refine hz_lloadn (pc := 90) 2 (hz_dec kX11_solve 48 rfl) rfl ?_
      refine hz_iload (pc := 91) 0 (hz_dec kX11_solve 49 rfl) rfl ?_
      refine hz_iconst (pc := 93) (v := nI 1) (hz_dec kX11_solve 50 rfl) (by decide) ?_
      refine hz_subN (pc := 94) (hz_dec kX11_solve 51 rfl) (by omega) ?_
      refine hz_i2l (pc := 95) (hz_dec kX11_solve 52 rfl) ?_
      refine hz_ladd (pc := 96) (hz_dec kX11_solve 53 rfl) ?_
      refine hz_eql (pc := 97) (show _ = nn + (nI i).toInt64 by rw [Nat.add_sub_cancel]) ?_
      refine hz_callV (pc := 97) (a := 8) (As := [.ref 56, .long (nn + (nI i).toInt64)]) (st := []) (hz_dec kX11_solve 54 rfl) co_X11_284 im_X11_meetsWith se_X11_meetsWith rfl hH1 (by omega) (by omega) (c_meetsW (T := T) hz63 hH1 hck1 hcs1 h201 h211 htg h561 (by decide) (by omega) (by decide) hT561 (by omega) (by omega) (x := nn + (nI i).toInt64)) rfl (by decide) ⟨Nat.le_refl _, Nat.le_refl _⟩ (Nat.le_of_ble_eq_true rfl) rfl (fun r9 z9 M2 hp9 => ?_)
      obtain ⟨rfl, rfl, hf2, hs2, g2, h562, hA2⟩ := hp9
      have hJ2 : juS M2 z := hJ1.sl hf2 (by decide) hs2
      have hR2 : hcR M2 z (hot H (nzT T (nn + (nI i).toInt64)) (e - nI 1)) ll fr kn := hcR.jt (H := hot H T (e - nI 1)) hR1 (hf2.mono (fun q (h9 : outS [(8, 39), (56, 57)] q) => ⟨by have r := h9.1; omega, h9.2.1, trivial⟩)) (by rw [nzT_len]; exact (hf2.at2 (by omega)).trans hH1) hJ2 ⟨g2, h562, hA2⟩
      have hf02 : frS [(8, 63 + 34 * (hoN H).length)] M0 M2 := hf01.tr (hf2.mono (fun q (h9 : outS [(8, 63 + 34 * (hoN H).length)] q) => ⟨by have r := h9.1; omega, by have r := h9.1; omega, trivial⟩))
      have h212 := (hf2.at2 (q := 21) (by omega)).trans h211
      refine hz_if_eq (pc := 100) (tgt := 106) (hz_dec kX11_solve 55 rfl) (by decide) (fun h2 => ?_) (fun h2 => ?_)
      · skip
        have eR : R = slR nn tg k (i + 1) (nzT T (nn + (nI i).toInt64)) (e - nI 1) := hE.trans (if_neg (fun c => by rw [c] at h2; exact absurd h2 (by decide)))
        refine hz_incN (pc := 106) (i := 5) (lo2 := [(5, .int (nI (i + 1 + 1))), (0, .ref 8), (1, .long nn), (3, .int (nI n))]) 0 (hz_dec kX11_solve 58 rfl) rfl (by decide) rfl ?_
        refine hz_goto (pc := 109) (tgt := 69) (hz_dec kX11_solve 59 rfl) (by decide) ?_
        refine hz_pick (pc := 69) [0, 1, 2, 3] rfl ?_
        exact ih (i + 1) _ _ M2 ll fr kn (by omega) (by omega) (by rw [nzT_len]; exact hTL) hf02 hR2 ⟨f21, h212, htg⟩ eR
      · skip
        have eR : R = (nzT T (nn + (nI i).toInt64), e - nI 1, nI (i + 1)) := hE.trans (if_pos (hz_b1 h2))
        refine hz_iload (pc := 103) 0 (hz_dec kX11_solve 56 rfl) rfl ?_
        exact hz_iret (pc := 105) (hz_dec kX11_solve 57 rfl) rfl ⟨by rw [eR], rfl, hf02, ll, fr, kn, by rw [eR]; exact hR2⟩
