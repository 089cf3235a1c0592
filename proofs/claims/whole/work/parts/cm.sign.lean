/-! sign -/
def bI (x : Int32) : Int32 := x.toInt8.toInt32.toInt8.toInt32
theorem bn_put_1 {at_ : Nat} {x : Int32} {f : Nat → Int32} : bn_put at_ 1 x.toInt64 f at_ = bI x := by
  have q := bn_put_in (at_ := at_) 1 x.toInt64 f 0 (by decide) (by decide)
  rw [Nat.add_zero] at q
  rw [q]
  have e : (x.toInt64 >>> ((nI (8 * (1 - 1 - 0))).toInt64 &&& 63)).toInt32 = x := by
    show (x.toInt64 >>> (0 : Int64)).toInt32 = x
    rw [Int64.shiftRight_zero, Int32.toInt32_toInt64]
  rw [e]
  rfl
def sgL (li : List di_I) (lo : List do_O) : Nat := 2 + tx_oa li.length + 16 * lo.length
def sgF (li : List di_I) (lo : List do_O) (h : Int32) (sg : Nat → Nat → Int32) (j : Nat) : Int32 :=
  if j = 0 then bI (nI li.length) else if j = 1 then bI (nI lo.length)
  else if j < 2 + tx_oa li.length then
    (if li.length = 0 then sb_b (byi h (j - 2))
     else if (j - 2) % 73 < 8 then sb_b (byl (diL li ((j - 2) / 73)).1 ((j - 2) % 73))
     else if (j - 2) % 73 = 8 then bI (diL li ((j - 2) / 73)).2.1
     else sg ((j - 2) / 73) ((j - 2) % 73 - 9))
  else if (j - 2 - tx_oa li.length) % 16 < 8 then sb_b (byl (doL lo ((j - 2 - tx_oa li.length) / 16)).1 ((j - 2 - tx_oa li.length) % 16))
  else sb_b (byl (doL lo ((j - 2 - tx_oa li.length) / 16)).2 ((j - 2 - tx_oa li.length) % 16 - 8))
theorem oa_n {n : Nat} (h : ¬ n = 0) : tx_oa n = 73 * n := by unfold tx_oa; rw [if_neg h]; omega
theorem oa_0 : tx_oa 0 = 4 := rfl
theorem sgF_h {li : List di_I} {lo : List do_O} {h : Int32} {sg : Nat → Nat → Int32} (hl : li.length = 0) {r : Nat} (hr : r < 4) : sgF li lo h sg (2 + r) = sb_b (byi h r) := by
  unfold sgF
  rw [if_neg (by omega), if_neg (by omega), hl, if_pos (by rw [oa_0]; omega), if_pos rfl, Nat.add_sub_cancel_left]
theorem sgF_in {li : List di_I} {lo : List do_O} {h : Int32} {sg : Nat → Nat → Int32} {i r : Nat} (hi : i < li.length) (hr : r < 73) : sgF li lo h sg (2 + 73 * i + r) = if r < 8 then sb_b (byl (diL li i).1 r) else if r = 8 then bI (diL li i).2.1 else sg i (r - 9) := by
  unfold sgF
  have e1 : (2 + 73 * i + r - 2) % 73 = r := by omega
  have e2 : (2 + 73 * i + r - 2) / 73 = i := by omega
  rw [if_neg (by omega), if_neg (by omega), if_pos (by rw [oa_n (by omega)]; omega), if_neg (by omega), e1, e2]
theorem sgF_ou {li : List di_I} {lo : List do_O} {h : Int32} {sg : Nat → Nat → Int32} {i r : Nat} (hr : r < 16) : sgF li lo h sg (2 + tx_oa li.length + 16 * i + r) = if r < 8 then sb_b (byl (doL lo i).1 r) else sb_b (byl (doL lo i).2 (r - 8)) := by
  unfold sgF
  have e1 : (2 + tx_oa li.length + 16 * i + r - 2 - tx_oa li.length) % 16 = r := by omega
  have e2 : (2 + tx_oa li.length + 16 * i + r - 2 - tx_oa li.length) / 16 = i := by omega
  have e3 : ¬ 2 + tx_oa li.length + 16 * i + r = 0 := by omega
  have e4 : 4 ≤ tx_oa li.length := by unfold tx_oa; split <;> omega
  rw [if_neg (by omega), if_neg (by omega), if_neg (by omega), e1, e2]
/-- g is the draft as far as m, but for the signatures -/
def sgU (li : List di_I) (lo : List do_O) (h : Int32) (g : Nat → Int32) (m : Nat) : Prop := ∀ j, j < m → sgZ li.length j = false → g j = sgF li lo h (fun _ _ => 0) j
theorem sgU_in {li : List di_I} {lo : List do_O} {h : Int32} {g g2 : Nat → Int32} {i : Nat} (hi : i < li.length) (hg : sgU li lo h g (2 + 73 * i)) (e0 : ∀ j, j < 2 + 73 * i → g2 j = g j) (e1 : ∀ r, r < 8 → g2 (2 + 73 * i + r) = sb_b (byl (diL li i).1 r)) (e2 : g2 (2 + 73 * i + 8) = bI (diL li i).2.1) : sgU li lo h g2 (2 + 73 * (i + 1)) := by
  intro j hj hz
  rcases (show j < 2 + 73 * i ∨ ∃ r, r < 73 ∧ j = 2 + 73 * i + r by rcases (show j < 2 + 73 * i ∨ 2 + 73 * i ≤ j by omega) with c | c; exact Or.inl c; exact Or.inr ⟨j - (2 + 73 * i), by omega, by omega⟩) with c | ⟨r, hr, e⟩
  · rw [e0 j c]; exact hg j c hz
  · rw [e, sgF_in hi hr]
    have hz2 := of_decide_eq_false hz
    rcases (show r < 8 ∨ r = 8 ∨ 9 ≤ r by omega) with c | c | c
    · rw [if_pos c, e1 r c]
    · rw [if_neg (by omega), if_pos c, c, e2]
    · exact absurd hz2 (by rw [e]; omega)
theorem sgU_ou {li : List di_I} {lo : List do_O} {h : Int32} {g g2 : Nat → Int32} {i : Nat} (hg : sgU li lo h g (2 + tx_oa li.length + 16 * i)) (e0 : ∀ j, j < 2 + tx_oa li.length + 16 * i → g2 j = g j) (e1 : ∀ r, r < 8 → g2 (2 + tx_oa li.length + 16 * i + r) = sb_b (byl (doL lo i).1 r)) (e2 : ∀ r, r < 8 → g2 (2 + tx_oa li.length + 16 * i + 8 + r) = sb_b (byl (doL lo i).2 r)) : sgU li lo h g2 (2 + tx_oa li.length + 16 * (i + 1)) := by
  intro j hj hz
  rcases (show j < 2 + tx_oa li.length + 16 * i ∨ 2 + tx_oa li.length + 16 * i ≤ j by omega) with c | c
  · rw [e0 j c]; exact hg j c hz
  · obtain ⟨r, hr⟩ : ∃ r, j = 2 + tx_oa li.length + 16 * i + r := ⟨j - (2 + tx_oa li.length + 16 * i), by omega⟩
    have hr16 : r < 16 := by omega
    rw [hr, sgF_ou hr16]
    by_cases c8 : r < 8
    · rw [if_pos c8, e1 r c8]
    · have e := e2 (r - 8) (by omega)
      rw [show 2 + tx_oa li.length + 16 * i + 8 + (r - 8) = 2 + tx_oa li.length + 16 * i + r by omega] at e
      rw [if_neg c8, e]
set_option maxHeartbeats 4000000 in
set_option maxRecDepth 100000 in
theorem c_wr_o {κ : hz_C} {z : Nat} {M : hz_M} (hz : 63 ≤ z) {li : List di_I} {lo : List do_O} (hd : dfR M li lo) {h : Int32} {g0 : Nat → Int32} (h56 : M 56 = .inl (1, 4000, .inl g0)) : ∀ k i g, k = lo.length - i → i ≤ lo.length → sgU li lo h g (2 + tx_oa li.length + 16 * i) → hz_W κ xX2_write 1 0 0 (fun r z2 M2 => some (.int (nI (sgL li lo))) = r ∧ z = z2 ∧ ∃ g : Nat → Int32, sgU li lo h g (sgL li lo) ∧ va_up M 56 (.inl (1, 4000, .inl g)) = M2) 0 0 92 [(3, .int (nI i)), (0, .ref 39), (1, .ref 56), (2, .int h)] [] z (va_up M 56 (.inl (1, 4000, .inl g))) := by
  intro k
  induction k using Nat.strongRecOn with
  | ind k ih =>
  intro i g hk hi hg
  obtain ⟨d1, d2, d3, ⟨f1, f2, f3, k1, k2, k3, dX⟩, f4, f5, k4, k5, oX⟩ := id hd
  have hoa : tx_oa li.length ≤ 292 := by unfold tx_oa; split <;> omega
  refine hz_iloadn (pc := 92) 0 (hz_dec kX2_write 56 rfl) rfl ?_
  refine hz_aloadn (pc := 93) 1 (hz_dec kX2_write 57 rfl) rfl ?_
  refine hz_get (pc := 94) (hz_dec kX2_write 58 rfl) fo_X2_32 (hz_mne d1 (by omega)) (by omega) (by omega) rfl ?_
  refine hz_n_ge (pc := 97) (tgt := 151) (hz_dec kX2_write 59 rfl) (by decide) (by omega) (by omega) (fun h1 => ?_) (fun h1 => ?_)
  · skip
    have e : i = lo.length := by omega
    subst e
    refine hz_iconst (pc := 151) (v := nI 0) (hz_dec kX2_write 88 rfl) (by decide) ?_
    refine hz_aloadn (pc := 152) 1 (hz_dec kX2_write 89 rfl) rfl ?_
    refine hz_get (pc := 153) (hz_dec kX2_write 90 rfl) fo_X2_28 (hz_mne d1 (by omega)) (by omega) (by omega) rfl ?_
    refine hz_aloadn (pc := 156) 1 (hz_dec kX2_write 91 rfl) rfl ?_
    refine hz_get (pc := 157) (hz_dec kX2_write 92 rfl) fo_X2_32 (hz_mne d1 (by omega)) (by omega) (by omega) rfl ?_
    refine hz_xS (pc := 160) (As := [.int (nI 0), .int (nI (li.length)), .int (nI (lo.length))]) (st := []) (hz_dec kX2_write 93 rfl) co_X2_45 sc_X0_outputAt (c_outputAt (by omega)) rfl (by decide) ⟨Nat.le_refl _, Nat.le_refl _⟩ (Nat.le_of_ble_eq_true rfl) rfl ?_
    exact hz_iret (pc := 163) (hz_dec kX2_write 94 rfl) rfl ⟨by unfold sgL; rw [show 0 + 2 + tx_oa li.length + lo.length * 16 = 2 + tx_oa li.length + 16 * lo.length by omega], rfl, g, hg, rfl⟩
  · skip
    refine hz_aloadn (pc := 100) 2 (hz_dec kX2_write 60 rfl) rfl ?_
    refine hz_iconst (pc := 101) (v := nI 0) (hz_dec kX2_write 61 rfl) (by decide) ?_
    refine hz_aloadn (pc := 102) 1 (hz_dec kX2_write 62 rfl) rfl ?_
    refine hz_get (pc := 103) (hz_dec kX2_write 63 rfl) fo_X2_28 (hz_mne d1 (by omega)) (by omega) (by omega) rfl ?_
    refine hz_iloadn (pc := 106) 0 (hz_dec kX2_write 64 rfl) rfl ?_
    refine hz_xS (pc := 107) (As := [.int (nI 0), .int (nI (li.length)), .int (nI i)]) (st := [.ref 56]) (hz_dec kX2_write 65 rfl) co_X2_45 sc_X0_outputAt (c_outputAt (by omega)) rfl (by decide) ⟨Nat.le_refl _, Nat.le_refl _⟩ (Nat.le_of_ble_eq_true rfl) rfl ?_
    refine hz_eqi (pc := 110) (show nI (0 + 2 + tx_oa li.length + i * 16) = nI (2 + tx_oa li.length + 16 * i) by rw [show 0 + 2 + tx_oa li.length + i * 16 = 2 + tx_oa li.length + 16 * i by omega]) ?_
    refine hz_aloadn (pc := 110) 1 (hz_dec kX2_write 66 rfl) rfl ?_
    refine hz_get (pc := 111) (hz_dec kX2_write 67 rfl) fo_X2_22 (hz_mne d1 (by omega)) (by omega) (by omega) rfl ?_
    refine hz_iloadn (pc := 114) 0 (hz_dec kX2_write 68 rfl) rfl ?_
    refine hz_lald (pc := 115) (j := i) (hz_dec kX2_write 69 rfl) (hz_mne k4 (by omega)) (by omega) (by omega) rfl (by omega) (by omega) ?_
    refine hz_eql (pc := 116) (oX i h1).1 ?_
    refine hz_bipush (pc := 116) (v := nI 8) (hz_dec kX2_write 70 rfl) (by decide) ?_
    refine hz_xS (pc := 118) (As := [.ref 56, .int (nI (2 + tx_oa li.length + 16 * i)), .long ((doL lo i).1), .int (nI 8)]) (st := []) (hz_dec kX2_write 71 rfl) co_X2_35 sc_X0_put (c_put (at_ := 2 + tx_oa li.length + 16 * i) (mn := 8) (v := (doL lo i).1) (va_up_self _ _ _) (by decide) (by omega) (by decide) (by omega)) rfl (by decide) ⟨Nat.le_refl _, Nat.le_refl _⟩ (Nat.le_of_ble_eq_true rfl) rfl ?_
    refine hz_mem (pc := 121) (M2 := (va_up (va_up M 56 (.inl (1, 4000, .inl (g)))) 56 (.inl (1, 4000, .inl (bn_put (2 + tx_oa li.length + 16 * i) 8 (doL lo i).1 (g)))))) rfl ?_
    refine hz_mem (pc := 121) (M2 := (va_up M 56 (.inl (1, 4000, .inl (bn_put (2 + tx_oa li.length + 16 * i) 8 (doL lo i).1 (g)))))) (bx_uu _ _ _ _) ?_
    refine hz_aloadn (pc := 121) 2 (hz_dec kX2_write 72 rfl) rfl ?_
    refine hz_iconst (pc := 122) (v := nI 0) (hz_dec kX2_write 73 rfl) (by decide) ?_
    refine hz_aloadn (pc := 123) 1 (hz_dec kX2_write 74 rfl) rfl ?_
    refine hz_get (pc := 124) (hz_dec kX2_write 75 rfl) fo_X2_28 (hz_mne d1 (by omega)) (by omega) (by omega) rfl ?_
    refine hz_iloadn (pc := 127) 0 (hz_dec kX2_write 76 rfl) rfl ?_
    refine hz_xS (pc := 128) (As := [.int (nI 0), .int (nI (li.length)), .int (nI i)]) (st := [.ref 56]) (hz_dec kX2_write 77 rfl) co_X2_45 sc_X0_outputAt (c_outputAt (by omega)) rfl (by decide) ⟨Nat.le_refl _, Nat.le_refl _⟩ (Nat.le_of_ble_eq_true rfl) rfl ?_
    refine hz_eqi (pc := 131) (show nI (0 + 2 + tx_oa li.length + i * 16) = nI (2 + tx_oa li.length + 16 * i) by rw [show 0 + 2 + tx_oa li.length + i * 16 = 2 + tx_oa li.length + 16 * i by omega]) ?_
    refine hz_bipush (pc := 131) (v := nI 8) (hz_dec kX2_write 78 rfl) (by decide) ?_
    refine hz_addN (pc := 133) (hz_dec kX2_write 79 rfl) ?_
    refine hz_aloadn (pc := 134) 1 (hz_dec kX2_write 80 rfl) rfl ?_
    refine hz_get (pc := 135) (hz_dec kX2_write 81 rfl) fo_X2_25 (hz_mne d1 (by omega)) (by omega) (by omega) rfl ?_
    refine hz_iloadn (pc := 138) 0 (hz_dec kX2_write 82 rfl) rfl ?_
    refine hz_lald (pc := 139) (j := i) (hz_dec kX2_write 83 rfl) (hz_mne k5 (by omega)) (by omega) (by omega) rfl (by omega) (by omega) ?_
    refine hz_eql (pc := 140) (oX i h1).2 ?_
    refine hz_bipush (pc := 140) (v := nI 8) (hz_dec kX2_write 84 rfl) (by decide) ?_
    refine hz_xS (pc := 142) (As := [.ref 56, .int (nI ((2 + tx_oa li.length + 16 * i) + 8)), .long ((doL lo i).2), .int (nI 8)]) (st := []) (hz_dec kX2_write 85 rfl) co_X2_35 sc_X0_put (c_put (at_ := 2 + tx_oa li.length + 16 * i + 8) (mn := 8) (v := (doL lo i).2) (va_up_self _ _ _) (by decide) (by omega) (by decide) (by omega)) rfl (by decide) ⟨Nat.le_refl _, Nat.le_refl _⟩ (Nat.le_of_ble_eq_true rfl) rfl ?_
    refine hz_mem (pc := 145) (M2 := (va_up (va_up M 56 (.inl (1, 4000, .inl (bn_put (2 + tx_oa li.length + 16 * i) 8 (doL lo i).1 (g))))) 56 (.inl (1, 4000, .inl (bn_put (2 + tx_oa li.length + 16 * i + 8) 8 (doL lo i).2 (bn_put (2 + tx_oa li.length + 16 * i) 8 (doL lo i).1 (g))))))) rfl ?_
    refine hz_mem (pc := 145) (M2 := (va_up M 56 (.inl (1, 4000, .inl (bn_put (2 + tx_oa li.length + 16 * i + 8) 8 (doL lo i).2 (bn_put (2 + tx_oa li.length + 16 * i) 8 (doL lo i).1 (g))))))) (bx_uu _ _ _ _) ?_
    refine hz_incN (pc := 145) (i := 3) (lo2 := [(3, .int (nI (i + 1))), (0, .ref 39), (1, .ref 56), (2, .int h)]) 0 (hz_dec kX2_write 86 rfl) rfl (by decide) rfl ?_
    refine hz_goto (pc := 148) (tgt := 92) (hz_dec kX2_write 87 rfl) (by decide) ?_
    refine hz_pick (pc := 92) [0, 1, 2, 3] rfl ?_
    exact ih (lo.length - (i + 1)) (by omega) (i + 1) _ rfl (by omega) (sgU_ou hg (fun j hj => (bn_put_out _ _ _ _ (by omega)).trans (bn_put_out _ _ _ _ (by omega))) (fun r hr => (bn_put_out _ _ _ _ (by omega)).trans (bn_put_l hr)) (fun r hr => bn_put_l hr))
set_option maxHeartbeats 4000000 in
set_option maxRecDepth 100000 in
theorem c_wr_i {κ : hz_C} {z : Nat} {M : hz_M} (hz : 63 ≤ z) {li : List di_I} {lo : List do_O} (hd : dfR M li lo) {h : Int32} {g0 : Nat → Int32} (h56 : M 56 = .inl (1, 4000, .inl g0)) (hl : ¬ li.length = 0) : ∀ k i g, k = li.length - i → i ≤ li.length → sgU li lo h g (2 + 73 * i) → hz_W κ xX2_write 1 0 0 (fun r z2 M2 => some (.int (nI (sgL li lo))) = r ∧ z = z2 ∧ ∃ g : Nat → Int32, sgU li lo h g (sgL li lo) ∧ va_up M 56 (.inl (1, 4000, .inl g)) = M2) 0 0 39 [(3, .int (nI i)), (0, .ref 39), (1, .ref 56), (2, .int h)] [] z (va_up M 56 (.inl (1, 4000, .inl g))) := by
  intro k
  induction k using Nat.strongRecOn with
  | ind k ih =>
  intro i g hk hi hg
  obtain ⟨d1, d2, d3, ⟨f1, f2, f3, k1, k2, k3, dX⟩, f4, f5, k4, k5, oX⟩ := id hd
  refine hz_iloadn (pc := 39) 0 (hz_dec kX2_write 25 rfl) rfl ?_
  refine hz_aloadn (pc := 40) 1 (hz_dec kX2_write 26 rfl) rfl ?_
  refine hz_get (pc := 41) (hz_dec kX2_write 27 rfl) fo_X2_28 (hz_mne d1 (by omega)) (by omega) (by omega) rfl ?_
  refine hz_n_ge (pc := 44) (tgt := 90) (hz_dec kX2_write 28 rfl) (by decide) (by omega) (by omega) (fun h1 => ?_) (fun h1 => ?_)
  · skip
    have e : i = li.length := by omega
    subst e
    refine hz_iconst (pc := 90) (v := nI 0) (hz_dec kX2_write 54 rfl) (by decide) ?_
    refine hz_istoren (pc := 91) (i := 3) (lo2 := [(3, .int (nI 0)), (0, .ref 39), (1, .ref 56), (2, .int h)]) (hz_dec kX2_write 55 rfl) rfl (by decide) rfl ?_
    refine hz_pick (pc := 92) [0, 1, 2, 3] rfl ?_
    exact c_wr_o hz hd h56 lo.length 0 g rfl (by omega) (by rw [oa_n hl]; exact hg)
  · skip
    refine hz_aloadn (pc := 47) 2 (hz_dec kX2_write 29 rfl) rfl ?_
    refine hz_iconst (pc := 48) (v := nI 0) (hz_dec kX2_write 30 rfl) (by decide) ?_
    refine hz_iloadn (pc := 49) 0 (hz_dec kX2_write 31 rfl) rfl ?_
    refine hz_xS (pc := 50) (As := [.int (nI 0), .int (nI i)]) (st := [.ref 56]) (hz_dec kX2_write 32 rfl) co_X2_41 sc_X0_inputAt (c_inputAt) rfl (by decide) ⟨Nat.le_refl _, Nat.le_refl _⟩ (Nat.le_of_ble_eq_true rfl) rfl ?_
    refine hz_eqi (pc := 53) (show nI (0 + 2 + i * 73) = nI (2 + 73 * i) by rw [show 0 + 2 + i * 73 = 2 + 73 * i by omega]) ?_
    refine hz_aloadn (pc := 53) 1 (hz_dec kX2_write 33 rfl) rfl ?_
    refine hz_get (pc := 54) (hz_dec kX2_write 34 rfl) fo_X2_9 (hz_mne d1 (by omega)) (by omega) (by omega) rfl ?_
    refine hz_iloadn (pc := 57) 0 (hz_dec kX2_write 35 rfl) rfl ?_
    refine hz_lald (pc := 58) (j := i) (hz_dec kX2_write 36 rfl) (hz_mne k1 (by omega)) (by omega) (by omega) rfl (by omega) (by omega) ?_
    refine hz_eql (pc := 59) (dX i h1).1 ?_
    refine hz_bipush (pc := 59) (v := nI 8) (hz_dec kX2_write 37 rfl) (by decide) ?_
    refine hz_xS (pc := 61) (As := [.ref 56, .int (nI (2 + 73 * i)), .long ((diL li i).1), .int (nI 8)]) (st := []) (hz_dec kX2_write 38 rfl) co_X2_35 sc_X0_put (c_put (at_ := 2 + 73 * i) (mn := 8) (v := (diL li i).1) (va_up_self _ _ _) (by decide) (by omega) (by decide) (by omega)) rfl (by decide) ⟨Nat.le_refl _, Nat.le_refl _⟩ (Nat.le_of_ble_eq_true rfl) rfl ?_
    refine hz_mem (pc := 64) (M2 := (va_up (va_up M 56 (.inl (1, 4000, .inl (g)))) 56 (.inl (1, 4000, .inl (bn_put (2 + 73 * i) 8 (diL li i).1 (g)))))) rfl ?_
    refine hz_mem (pc := 64) (M2 := (va_up M 56 (.inl (1, 4000, .inl (bn_put (2 + 73 * i) 8 (diL li i).1 (g)))))) (bx_uu _ _ _ _) ?_
    refine hz_aloadn (pc := 64) 2 (hz_dec kX2_write 39 rfl) rfl ?_
    refine hz_iconst (pc := 65) (v := nI 0) (hz_dec kX2_write 40 rfl) (by decide) ?_
    refine hz_iloadn (pc := 66) 0 (hz_dec kX2_write 41 rfl) rfl ?_
    refine hz_xS (pc := 67) (As := [.int (nI 0), .int (nI i)]) (st := [.ref 56]) (hz_dec kX2_write 42 rfl) co_X2_41 sc_X0_inputAt (c_inputAt) rfl (by decide) ⟨Nat.le_refl _, Nat.le_refl _⟩ (Nat.le_of_ble_eq_true rfl) rfl ?_
    refine hz_eqi (pc := 70) (show nI (0 + 2 + i * 73) = nI (2 + 73 * i) by rw [show 0 + 2 + i * 73 = 2 + 73 * i by omega]) ?_
    refine hz_bipush (pc := 70) (v := nI 8) (hz_dec kX2_write 43 rfl) (by decide) ?_
    refine hz_addN (pc := 72) (hz_dec kX2_write 44 rfl) ?_
    refine hz_aloadn (pc := 73) 1 (hz_dec kX2_write 45 rfl) rfl ?_
    refine hz_get (pc := 74) (hz_dec kX2_write 46 rfl) fo_X2_15 (hz_mne d1 (by omega)) (by omega) (by omega) rfl ?_
    refine hz_iloadn (pc := 77) 0 (hz_dec kX2_write 47 rfl) rfl ?_
    refine hz_iald (pc := 78) (j := i) (hz_dec kX2_write 48 rfl) (hz_mne k2 (by omega)) (by omega) (by omega) rfl (by omega) (by omega) ?_
    refine hz_eqi (pc := 79) (dX i h1).2.1 ?_
    refine hz_i2l (pc := 79) (hz_dec kX2_write 49 rfl) ?_
    refine hz_iconst (pc := 80) (v := nI 1) (hz_dec kX2_write 50 rfl) (by decide) ?_
    refine hz_xS (pc := 81) (As := [.ref 56, .int (nI ((2 + 73 * i) + 8)), .long (((diL li i).2.1).toInt64), .int (nI 1)]) (st := []) (hz_dec kX2_write 51 rfl) co_X2_35 sc_X0_put (c_put (at_ := 2 + 73 * i + 8) (mn := 1) (v := (diL li i).2.1.toInt64) (va_up_self _ _ _) (by decide) (by omega) (by decide) (by omega)) rfl (by decide) ⟨Nat.le_refl _, Nat.le_refl _⟩ (Nat.le_of_ble_eq_true rfl) rfl ?_
    refine hz_mem (pc := 84) (M2 := (va_up (va_up M 56 (.inl (1, 4000, .inl (bn_put (2 + 73 * i) 8 (diL li i).1 (g))))) 56 (.inl (1, 4000, .inl (bn_put (2 + 73 * i + 8) 1 (diL li i).2.1.toInt64 (bn_put (2 + 73 * i) 8 (diL li i).1 (g))))))) rfl ?_
    refine hz_mem (pc := 84) (M2 := (va_up M 56 (.inl (1, 4000, .inl (bn_put (2 + 73 * i + 8) 1 (diL li i).2.1.toInt64 (bn_put (2 + 73 * i) 8 (diL li i).1 (g))))))) (bx_uu _ _ _ _) ?_
    refine hz_incN (pc := 84) (i := 3) (lo2 := [(3, .int (nI (i + 1))), (0, .ref 39), (1, .ref 56), (2, .int h)]) 0 (hz_dec kX2_write 52 rfl) rfl (by decide) rfl ?_
    refine hz_goto (pc := 87) (tgt := 39) (hz_dec kX2_write 53 rfl) (by decide) ?_
    refine hz_pick (pc := 39) [0, 1, 2, 3] rfl ?_
    exact ih (li.length - (i + 1)) (by omega) (i + 1) _ rfl (by omega) (sgU_in h1 hg (fun j hj => (bn_put_out _ _ _ _ (by omega)).trans (bn_put_out _ _ _ _ (by omega))) (fun r hr => (bn_put_out _ _ _ _ (by omega)).trans (bn_put_l hr)) bn_put_1)
theorem sgU_z {li : List di_I} {lo : List do_O} {h : Int32} {g : Nat → Int32} (hl : li.length = 0) (h2 : sgU li lo h g 2) : sgU li lo h (bn_put 2 4 h.toInt64 g) (2 + tx_oa li.length + 16 * 0) := by
  intro j hj hz
  rw [hl, oa_0] at hj
  rcases (show j < 2 ∨ 2 ≤ j by omega) with c | c
  · rw [bn_put_out _ _ _ _ (by omega)]; exact h2 j c hz
  · obtain ⟨r, e⟩ : ∃ r, j = 2 + r := ⟨j - 2, by omega⟩
    have hr : r < 4 := by omega
    rw [e, bn_put_i hr, sgF_h hl hr]
set_option maxHeartbeats 4000000 in
set_option maxRecDepth 100000 in
theorem c_wrt {κ : hz_C} {z : Nat} {M : hz_M} (hz : 63 ≤ z) {li : List di_I} {lo : List do_O} (hd : dfR M li lo) {h : Int32} {g0 : Nat → Int32} (h56 : M 56 = .inl (1, 4000, .inl g0)) : hz_Mt κ xX2_write 1 0 0 [.ref 39, .ref 56, .int h] z M (fun r z2 M2 => some (.int (nI (sgL li lo))) = r ∧ z = z2 ∧ ∃ g : Nat → Int32, sgU li lo h g (sgL li lo) ∧ va_up M 56 (.inl (1, 4000, .inl g)) = M2) := by
  refine hz_ent (lo := [(0, .ref 39), (1, .ref 56), (2, .int h)]) (by decide) (Nat.le_of_ble_eq_true rfl) rfl ?_
  obtain ⟨d1, d2, d3, ⟨f1, f2, f3, k1, k2, k3, dX⟩, f4, f5, k4, k5, oX⟩ := id hd
  refine hz_aloadn (pc := 0) 1 (hz_dec kX2_write 0 rfl) rfl ?_
  refine hz_iconst (pc := 1) (v := nI 0) (hz_dec kX2_write 1 rfl) (by decide) ?_
  refine hz_aloadn (pc := 2) 0 (hz_dec kX2_write 2 rfl) rfl ?_
  refine hz_get (pc := 3) (hz_dec kX2_write 3 rfl) fo_X2_28 d1 (by omega) (by omega) rfl ?_
  refine hz_i2l (pc := 6) (hz_dec kX2_write 4 rfl) ?_
  refine hz_iconst (pc := 7) (v := nI 1) (hz_dec kX2_write 5 rfl) (by decide) ?_
  refine hz_xS (pc := 8) (As := [.ref 56, .int (nI 0), .long ((nI (li.length)).toInt64), .int (nI 1)]) (st := []) (hz_dec kX2_write 6 rfl) co_X2_35 sc_X0_put (c_put (at_ := 0) (mn := 1) (v := (nI li.length).toInt64) h56 (by decide) (by omega) (by decide) (by omega)) rfl (by decide) ⟨Nat.le_refl _, Nat.le_refl _⟩ (Nat.le_of_ble_eq_true rfl) rfl ?_
  refine hz_mem (pc := 11) (M2 := (va_up M 56 (.inl (1, 4000, .inl (bn_put (0) 1 (nI li.length).toInt64 (g0)))))) rfl ?_
  refine hz_aloadn (pc := 11) 1 (hz_dec kX2_write 7 rfl) rfl ?_
  refine hz_iconst (pc := 12) (v := nI 1) (hz_dec kX2_write 8 rfl) (by decide) ?_
  refine hz_aloadn (pc := 13) 0 (hz_dec kX2_write 9 rfl) rfl ?_
  refine hz_get (pc := 14) (hz_dec kX2_write 10 rfl) fo_X2_32 (hz_mne d1 (by omega)) (by omega) (by omega) rfl ?_
  refine hz_i2l (pc := 17) (hz_dec kX2_write 11 rfl) ?_
  refine hz_iconst (pc := 18) (v := nI 1) (hz_dec kX2_write 12 rfl) (by decide) ?_
  refine hz_xS (pc := 19) (As := [.ref 56, .int (nI 1), .long ((nI (lo.length)).toInt64), .int (nI 1)]) (st := []) (hz_dec kX2_write 13 rfl) co_X2_35 sc_X0_put (c_put (at_ := 1) (mn := 1) (v := (nI lo.length).toInt64) (va_up_self _ _ _) (by decide) (by omega) (by decide) (by omega)) rfl (by decide) ⟨Nat.le_refl _, Nat.le_refl _⟩ (Nat.le_of_ble_eq_true rfl) rfl ?_
  refine hz_mem (pc := 22) (M2 := (va_up (va_up M 56 (.inl (1, 4000, .inl (bn_put (0) 1 (nI li.length).toInt64 (g0))))) 56 (.inl (1, 4000, .inl (bn_put (1) 1 (nI lo.length).toInt64 (bn_put (0) 1 (nI li.length).toInt64 (g0))))))) rfl ?_
  refine hz_mem (pc := 22) (M2 := (va_up M 56 (.inl (1, 4000, .inl (bn_put (1) 1 (nI lo.length).toInt64 (bn_put (0) 1 (nI li.length).toInt64 (g0))))))) (bx_uu _ _ _ _) ?_
  refine hz_aloadn (pc := 22) 0 (hz_dec kX2_write 14 rfl) rfl ?_
  refine hz_get (pc := 23) (hz_dec kX2_write 15 rfl) fo_X2_28 (hz_mne d1 (by omega)) (by omega) (by omega) rfl ?_
  have h2 : sgU li lo h (bn_put (1) 1 (nI lo.length).toInt64 (bn_put (0) 1 (nI li.length).toInt64 (g0))) 2 := by
    intro j hj hz
    rcases (show j = 0 ∨ j = 1 by omega) with c | c
    · rw [c, bn_put_out _ _ _ _ (by omega), bn_put_1]; rfl
    · rw [c, bn_put_1]; rfl
  refine hz_z_ne (pc := 26) (tgt := 37) (hz_dec kX2_write 16 rfl) (by decide) (by omega) (fun h1 => ?_) (fun h1 => ?_)
  · skip
    have hl : ¬ li.length = 0 := by omega
    refine hz_iconst (pc := 37) (v := nI 0) (hz_dec kX2_write 23 rfl) (by decide) ?_
    refine hz_istoren (pc := 38) (i := 3) (lo2 := [(3, .int (nI 0)), (0, .ref 39), (1, .ref 56), (2, .int h)]) (hz_dec kX2_write 24 rfl) rfl (by decide) rfl ?_
    refine hz_pick (pc := 39) [0, 1, 2, 3] rfl ?_
    exact c_wr_i hz hd h56 hl li.length 0 _ rfl (by omega) h2
  · skip
    refine hz_aloadn (pc := 29) 1 (hz_dec kX2_write 17 rfl) rfl ?_
    refine hz_iconst (pc := 30) (v := nI 2) (hz_dec kX2_write 18 rfl) (by decide) ?_
    refine hz_iloadn (pc := 31) 2 (hz_dec kX2_write 19 rfl) rfl ?_
    refine hz_i2l (pc := 32) (hz_dec kX2_write 20 rfl) ?_
    refine hz_iconst (pc := 33) (v := nI 4) (hz_dec kX2_write 21 rfl) (by decide) ?_
    refine hz_xS (pc := 34) (As := [.ref 56, .int (nI 2), .long (h).toInt64, .int (nI 4)]) (st := []) (hz_dec kX2_write 22 rfl) co_X2_35 sc_X0_put (c_put (at_ := 2) (mn := 4) (v := h.toInt64) (va_up_self _ _ _) (by decide) (by omega) (by decide) (by omega)) rfl (by decide) ⟨Nat.le_refl _, Nat.le_refl _⟩ (Nat.le_of_ble_eq_true rfl) rfl ?_
    refine hz_mem (pc := 37) (M2 := (va_up (va_up M 56 (.inl (1, 4000, .inl (bn_put (1) 1 (nI lo.length).toInt64 (bn_put (0) 1 (nI li.length).toInt64 (g0)))))) 56 (.inl (1, 4000, .inl (bn_put (2) 4 h.toInt64 (bn_put (1) 1 (nI lo.length).toInt64 (bn_put (0) 1 (nI li.length).toInt64 (g0)))))))) rfl ?_
    refine hz_mem (pc := 37) (M2 := (va_up M 56 (.inl (1, 4000, .inl (bn_put (2) 4 h.toInt64 (bn_put (1) 1 (nI lo.length).toInt64 (bn_put (0) 1 (nI li.length).toInt64 (g0)))))))) (bx_uu _ _ _ _) ?_
    refine hz_iconst (pc := 37) (v := nI 0) (hz_dec kX2_write 23 rfl) (by decide) ?_
    refine hz_istoren (pc := 38) (i := 3) (lo2 := [(3, .int (nI 0)), (0, .ref 39), (1, .ref 56), (2, .int h)]) (hz_dec kX2_write 24 rfl) rfl (by decide) rfl ?_
    refine hz_iloadn (pc := 39) 0 (hz_dec kX2_write 25 rfl) rfl ?_
    refine hz_aloadn (pc := 40) 1 (hz_dec kX2_write 26 rfl) rfl ?_
    refine hz_get (pc := 41) (hz_dec kX2_write 27 rfl) fo_X2_28 (hz_mne d1 (by omega)) (by omega) (by omega) rfl ?_
    refine hz_n_ge (pc := 44) (tgt := 90) (hz_dec kX2_write 28 rfl) (by decide) (by omega) (by omega) (fun h5 => ?_) (fun h5 => ?_)
    · skip
      refine hz_iconst (pc := 90) (v := nI 0) (hz_dec kX2_write 54 rfl) (by decide) ?_
      refine hz_istoren (pc := 91) (i := 3) (lo2 := [(3, .int (nI 0)), (0, .ref 39), (1, .ref 56), (2, .int h)]) (hz_dec kX2_write 55 rfl) rfl (by decide) rfl ?_
      refine hz_pick (pc := 92) [0, 1, 2, 3] rfl ?_
      exact c_wr_o hz hd h56 lo.length 0 _ rfl (by omega) (sgU_z h1 h2)
    · skip
      exact absurd h5 (by omega)
