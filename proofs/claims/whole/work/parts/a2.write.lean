/-! records on a disk; Node.write -/
/-- the record of a block at a place -/
def rcS (l : by_L) (p : Nat) : by_L := cutL (fun j => if j = 0 then sb_b (l.length / 256 % 256) else if j = 1 then sb_b (l.length % 256) else if j < l.length + 2 then lf l (j - 2) else sh_dg (shS (slS l p)) (j - (l.length + 2))) 0 (l.length + 6)
theorem rcS_len (l : by_L) (p : Nat) : (rcS l p).length = l.length + 6 := cutL_len _ _ _
theorem rcS_0 (l : by_L) (p : Nat) : lf (rcS l p) 0 = sb_b (l.length / 256 % 256) := by unfold rcS; rw [lf_cutL (by omega), Nat.zero_add, if_pos rfl]
theorem rcS_1 (l : by_L) (p : Nat) : lf (rcS l p) 1 = sb_b (l.length % 256) := by unfold rcS; rw [lf_cutL (by omega), Nat.zero_add, if_neg (by decide), if_pos rfl]
theorem rcS_b {l : by_L} {p j : Nat} (h2 : 2 ≤ j) (h : j < l.length + 2) : lf (rcS l p) j = lf l (j - 2) := by unfold rcS; rw [lf_cutL (by omega), Nat.zero_add, if_neg (by omega), if_neg (by omega), if_pos h]
theorem rcS_s {l : by_L} {p j : Nat} (h2 : l.length + 2 ≤ j) (h : j < l.length + 6) : lf (rcS l p) j = sh_dg (shS (slS l p)) (j - (l.length + 2)) := by unfold rcS; rw [lf_cutL (by omega), Nat.zero_add, if_neg (by omega), if_neg (by omega), if_neg (by omega)]
/-- the two bytes at either end of a record's place are 0 -/
def dkZ (dk : Nat → Int32) (nx L : Nat) : Nat → Int32 := fun j => if j = nx ∨ j = nx + 1 ∨ j = nx + L ∨ j = nx + L + 1 then 0 else dk j
/-- the last m bytes of a record stand -/
def dkR (dk : Nat → Int32) (nx : Nat) (r : by_L) (m : Nat) : Nat → Int32 := fun j => if nx + (r.length - m) ≤ j ∧ j < nx + r.length then lf r (j - nx) else dk j
/-- how many bytes come through -/
def fzM (fz : Option Nat) (L : Nat) : Nat := match fz with
  | none => L
  | some k => min L k
def fzN (fz : Option Nat) (m : Nat) : Option Nat := match fz with
  | none => none
  | some k => some (k - m)
def fzO (fz : Option Nat) (L : Nat) : Bool := decide (fzM fz L = L)
def dkW (dk : Nat → Int32) (nx : Nat) (r : by_L) (fz : Option Nat) : Nat → Int32 := dkR (dkZ dk nx r.length) nx r (fzM fz r.length)
theorem dkR_0 (dk : Nat → Int32) (nx : Nat) (r : by_L) (j : Nat) : dkR dk nx r 0 j = dk j := by unfold dkR; rw [if_neg (by omega)]
theorem dkR_st {dk g : Nat → Int32} {nx : Nat} {r : by_L} {k m : Nat} {v : Int32} (hk : k + 1 + m = r.length) (hg : ∀ j, j < 12288 → g j = dkR dk nx r m j) (hv : v = lf r k) : ∀ j, j < 12288 → upd g (nx + k) v j = dkR dk nx r (m + 1) j := by
  intro j hj
  simp only [upd]
  by_cases c : j = nx + k
  · rw [if_pos c, hv]
    unfold dkR
    rw [if_pos (by omega), c, Nat.add_sub_cancel_left]
  · rw [if_neg c, hg j hj]
    unfold dkR
    by_cases d : nx + (r.length - m) ≤ j ∧ j < nx + r.length
    · rw [if_pos d, if_pos (by omega)]
    · rw [if_neg d, if_neg (by omega)]
theorem bb_nIm {m : Nat} (h : m < 4294967296) : bb (nI m) = m % 256 := by rw [bb_un, un_nI h]
/-- a byte of the seal -/
theorem sl_b (h : Nat → Int32) {i : Nat} (hi : i < 4) : (nI (un (h 0) / 2 ^ (8 * (3 - i)))).toInt8.toInt32.toInt8.toInt32 = sh_dg h i := by
  have e : un (h 0) / 2 ^ (8 * (3 - i)) < 4294967296 := Nat.lt_of_le_of_lt (Nat.div_le_self _ _) (un_lt _)
  rw [sb_of (bb_nIm e)]
  unfold sh_dg
  rw [show i / 4 = 0 by omega, show i % 4 = i by omega, sb_of (bb_shr (h 0) (k := 24 - 8 * i) (by omega)), show 8 * (3 - i) = 24 - 8 * i by omega]
set_option maxHeartbeats 4000000 in
set_option maxRecDepth 100000 in
theorem c_wr_l {κ : hz_C} {z : Nat} {M0 : hz_M} {nb nx : Nat} {nu rc rf : Int32} (hnb : 63 ≤ nb) (hnbz : nb + 34 ≤ z) {b n : Nat} {f dk : Nat → Int32} {l : by_L} (hB0 : M0 b = .inl (1, n, .inl f)) (hb8 : 39 ≤ b) (hbz : b < z) (hbo : b < nb ∨ nb + 2 ≤ b) (hn : n < 2 ^ 24) (hA : isA f 0 l) (hln : l.length ≤ n) (hl9 : l.length ≤ 2945) (hrm : nx + l.length + 8 ≤ 12288) {fz : Option Nat} (hfz : ∀ q, fz = some q → q < 2 ^ 31) (hby : ∀ j, j < n → (f j).toInt8.toInt32 = f j) : ∀ k m M (g : Nat → Int32), k + m = l.length + 6 → m ≤ fzM fz (l.length + 6) → frS [(nb, nb + 2)] M0 M → M nb = ndO nb nu (nI 1) (nI nx) (pvI (fzN fz m)) rc rf → M (nb + 1) = .inl (1, 12288, .inl g) → (∀ j, j < 12288 → g j = dkR (dkZ dk nx (l.length + 6)) nx (rcS l nx) m j) → hz_W κ xX6_write 1 0 0 (fun r z2 M2 => some (.int (hz_b (fzO fz (l.length + 6)))) = r ∧ z = z2 ∧ frS [(nb, nb + 2)] M0 M2 ∧ M2 nb = ndO nb nu (hz_b (fzO fz (l.length + 6))) (nI (if fzO fz (l.length + 6) = true then nx + (l.length + 6) else nx)) (pvI (fzN fz (l.length + 6))) rc rf ∧ ∃ g : Nat → Int32, M2 (nb + 1) = .inl (1, 12288, .inl g) ∧ ∀ j, j < 12288 → g j = dkW dk nx (rcS l nx) fz j) 0 0 63 [(5, .int (nI k - 1)), (4, .int (nI (nx + l.length + 6))), (0, .ref nb), (1, .ref b), (2, .int (nI (l.length))), (3, .int (slI l nx))] [] z M := by
  intro k
  induction k with
  | zero =>
    intro m M g hkm hm hfr hN hD hg
    have em : m = l.length + 6 := by omega
    have eo : fzM fz (l.length + 6) = (l.length + 6) := by
      cases fz with
      | none => rfl
      | some q => have q1 : m ≤ min (l.length + 6) q := hm; show min (l.length + 6) q = (l.length + 6); omega
    have eO : fzO fz (l.length + 6) = true := decide_eq_true eo
    refine hz_iload (pc := 63) 0 (hz_dec kX6_write 38 rfl) rfl ?_
    refine hz_if_lt (pc := 65) (tgt := 170) (hz_dec kX6_write 39 rfl) (by decide) (fun q1 => ?_) (fun q1 => ?_)
    · skip
      refine hz_aloadn (pc := 170) 2 (hz_dec kX6_write 101 rfl) rfl ?_
      refine hz_iload (pc := 171) 1 (hz_dec kX6_write 102 rfl) rfl ?_
      refine hz_puti (pc := 173) (hz_dec kX6_write 103 rfl) fo_X6_75 ft_X6_3 hN (by omega) (by omega) (Nat.le_of_ble_eq_true rfl) ?_
      refine hz_mem (pc := 176) (M2 := (va_up M nb (.inr (6, [.int nu, .int (nI 1), .ref (nb + 1), .int (nI (nx + l.length + 6)), .int (pvI (fzN fz m)), .ref (nb + 21), .ref (nb + 2), .ref (nb + 10), .ref (nb + 13), .ref (nb + 14), .ref (nb + 15), .ref (nb + 18), .int rc, .int rf])))) rfl ?_
      refine hz_iconst (pc := 176) (v := nI 1) (hz_dec kX6_write 104 rfl) (by decide) ?_
      refine hz_zret (pc := 177) (hz_dec kX6_write 105 rfl) rfl rfl ⟨by rw [eO]; rfl, rfl, hfr.upr (by simp only [outS, and_true]; omega), (va_up_self _ _ _).trans (by rw [eO, if_pos rfl, em]; rfl), g, hz_mne hD (by omega), fun j hj => ?_⟩
      rw [hg j hj, em]
      unfold dkW
      rw [rcS_len, eo]
    · skip
      exact absurd (by decide) q1
  | succ k ih =>
    intro m M g hkm hm hfr hN hD hg
    rw [nI_pred]
    have hB : M b = .inl (1, n, .inl f) := (hfr.at1 (by omega)).trans hB0
    refine hz_iload (pc := 63) 0 (hz_dec kX6_write 38 rfl) rfl ?_
    refine hz_z_lt (pc := 65) (tgt := 170) (hz_dec kX6_write 39 rfl) (by decide) (by omega) ?_
    refine hz_aloadn (pc := 68) 2 (hz_dec kX6_write 40 rfl) rfl ?_
    refine hz_get (pc := 69) (hz_dec kX6_write 41 rfl) fo_X6_19 hN (by omega) (by omega) rfl ?_
    cases hfe : fz with
    | none =>
      subst hfe
      refine hz_eqi (pc := 72) (show _ = (-1 : Int32) from rfl) ?_
      refine hz_if_ne (pc := 72) (tgt := 82) (hz_dec kX6_write 42 rfl) (by decide) (fun h2 => ?_) (fun h2 => ?_)
      · skip
        refine hz_aloadn (pc := 82) 2 (hz_dec kX6_write 48 rfl) rfl ?_
        refine hz_get (pc := 83) (hz_dec kX6_write 49 rfl) fo_X6_19 hN (by omega) (by omega) rfl ?_
        refine hz_eqi (pc := 86) (show _ = (-1 : Int32) from rfl) ?_
        refine hz_if_le (pc := 86) (tgt := 99) (hz_dec kX6_write 50 rfl) (by decide) (fun h3 => ?_) (fun h3 => ?_)
        · skip
          refine hz_iloadn (pc := 99) 4 (hz_dec kX6_write 57 rfl) rfl ?_
          refine hz_bipush (pc := 100) (v := nI 6) (hz_dec kX6_write 58 rfl) (by decide) ?_
          refine hz_addN (pc := 102) (hz_dec kX6_write 59 rfl) ?_
          refine hz_iconst (pc := 103) (v := nI 1) (hz_dec kX6_write 60 rfl) (by decide) ?_
          refine hz_subN (pc := 104) (hz_dec kX6_write 61 rfl) (by omega) ?_
          refine hz_iload (pc := 105) 0 (hz_dec kX6_write 62 rfl) rfl ?_
          refine hz_subN (pc := 107) (hz_dec kX6_write 63 rfl) (by omega) ?_
          refine hz_eqi (pc := 108) (show _ = nI (l.length + 5 - k) by rw [show l.length + 6 - 1 - k = l.length + 5 - k by omega]) ?_
          refine hz_istore (pc := 108) (i := 6) (lo2 := [(6, .int (nI (l.length + 5 - k))), (5, .int (nI k)), (4, .int (nI (nx + l.length + 6))), (0, .ref nb), (1, .ref b), (2, .int (nI (l.length))), (3, .int (slI l nx))]) (hz_dec kX6_write 64 rfl) (by decide) rfl ?_
          refine hz_aloadn (pc := 110) 3 (hz_dec kX6_write 65 rfl) rfl ?_
          refine hz_get (pc := 111) (hz_dec kX6_write 66 rfl) fo_X6_15 hN (by omega) (by omega) rfl ?_
          refine hz_aloadn (pc := 114) 3 (hz_dec kX6_write 67 rfl) rfl ?_
          refine hz_get (pc := 115) (hz_dec kX6_write 68 rfl) fo_X6_75 hN (by omega) (by omega) rfl ?_
          refine hz_iload (pc := 118) 1 (hz_dec kX6_write 69 rfl) rfl ?_
          refine hz_addN (pc := 120) (hz_dec kX6_write 70 rfl) ?_
          refine hz_iload (pc := 121) 0 (hz_dec kX6_write 71 rfl) rfl ?_
          refine hz_iconst (pc := 123) (v := nI 4) (hz_dec kX6_write 72 rfl) (by decide) ?_
          refine hz_n_ge (pc := 124) (tgt := 138) (hz_dec kX6_write 73 rfl) (by decide) (by omega) (by omega) (fun h4 => ?_) (fun h4 => ?_)
          · skip
            refine hz_iload (pc := 138) 1 (hz_dec kX6_write 81 rfl) rfl ?_
            refine hz_iconst (pc := 140) (v := nI 2) (hz_dec kX6_write 82 rfl) (by decide) ?_
            refine hz_n_lt (pc := 141) (tgt := 153) (hz_dec kX6_write 83 rfl) (by decide) (by omega) (by omega) (fun h5 => ?_) (fun h5 => ?_)
            · skip
              refine hz_iloadn (pc := 153) 5 (hz_dec kX6_write 90 rfl) rfl ?_
              refine hz_bipush (pc := 154) (v := nI 8) (hz_dec kX6_write 91 rfl) (by decide) ?_
              refine hz_iconst (pc := 156) (v := nI 1) (hz_dec kX6_write 92 rfl) (by decide) ?_
              refine hz_iload (pc := 157) 1 (hz_dec kX6_write 93 rfl) rfl ?_
              refine hz_subN (pc := 159) (hz_dec kX6_write 94 rfl) (by omega) ?_
              refine hz_mulN (pc := 160) (hz_dec kX6_write 95 rfl) ?_
              refine hz_iushr (pc := 161) (hz_dec kX6_write 96 rfl) ?_
              refine hz_eqi (pc := 162) (ushr_nI _ (by omega)) ?_
              refine hz_i2b (pc := 162) (hz_dec kX6_write 97 rfl) ?_
              refine hz_bast (pc := 163) (j := nx + k) (hz_dec kX6_write 98 rfl) hD (by omega) (by omega) rfl (by omega) (by omega) ?_
              refine hz_iinc (pc := 164) (i := 5) (w := nI k - 1) (lo2 := [(5, .int (nI k - 1)), (6, .int (nI (l.length + 5 - k))), (4, .int (nI (nx + l.length + 6))), (0, .ref nb), (1, .ref b), (2, .int (nI (l.length))), (3, .int (slI l nx))]) 1 (hz_dec kX6_write 99 rfl) rfl (hz_m1 _) (by decide) rfl ?_
              refine hz_goto (pc := 167) (tgt := 63) (hz_dec kX6_write 100 rfl) (by decide) ?_
              refine hz_pick (pc := 63) [0, 2, 3, 4, 5, 6] rfl ?_
              refine ih (m + 1) _ _ (by omega) (show m + 1 ≤ (l.length + 6) by omega) (hfr.upr (by simp only [outS, and_true]; omega)) ((hz_mne hN (by omega))) (va_up_self _ _ _) (dkR_st (by rw [rcS_len]; omega) hg ?_)
              rw [un_nI (by omega), sb_of (bb_nIm (Nat.lt_of_le_of_lt (Nat.div_le_self _ _) (by omega)))]; rcases (show k = 0 ∨ k = 1 by omega) with rfl | rfl; exact (rcS_0 l nx).symm; rw [rcS_1, show 2 ^ (8 * (1 - 1)) = 1 from rfl, Nat.div_one]
            · skip
              refine hz_aloadn (pc := 144) 4 (hz_dec kX6_write 84 rfl) rfl ?_
              refine hz_iload (pc := 145) 1 (hz_dec kX6_write 85 rfl) rfl ?_
              refine hz_iconst (pc := 147) (v := nI 2) (hz_dec kX6_write 86 rfl) (by decide) ?_
              refine hz_subN (pc := 148) (hz_dec kX6_write 87 rfl) (by omega) ?_
              refine hz_bald (pc := 149) (j := k - 2) (hz_dec kX6_write 88 rfl) hB (by omega) (by omega) rfl (by omega) (by omega) ?_
              refine hz_goto (pc := 150) (tgt := 163) (hz_dec kX6_write 89 rfl) (by decide) ?_
              refine hz_bast (pc := 163) (j := nx + k) (hz_dec kX6_write 98 rfl) hD (by omega) (by omega) rfl (by omega) (by omega) ?_
              refine hz_iinc (pc := 164) (i := 5) (w := nI k - 1) (lo2 := [(5, .int (nI k - 1)), (6, .int (nI (l.length + 5 - k))), (4, .int (nI (nx + l.length + 6))), (0, .ref nb), (1, .ref b), (2, .int (nI (l.length))), (3, .int (slI l nx))]) 1 (hz_dec kX6_write 99 rfl) rfl (hz_m1 _) (by decide) rfl ?_
              refine hz_goto (pc := 167) (tgt := 63) (hz_dec kX6_write 100 rfl) (by decide) ?_
              refine hz_pick (pc := 63) [0, 2, 3, 4, 5, 6] rfl ?_
              refine ih (m + 1) _ _ (by omega) (show m + 1 ≤ (l.length + 6) by omega) (hfr.upr (by simp only [outS, and_true]; omega)) ((hz_mne hN (by omega))) (va_up_self _ _ _) (dkR_st (by rw [rcS_len]; omega) hg ?_)
              rw [rcS_b (by omega) (by omega), hby _ (by omega)]; have q := hA (k - 2) (by omega); rw [Nat.zero_add] at q; exact q
          · skip
            refine hz_iloadn (pc := 127) 6 (hz_dec kX6_write 74 rfl) rfl ?_
            refine hz_bipush (pc := 128) (v := nI 8) (hz_dec kX6_write 75 rfl) (by decide) ?_
            refine hz_iload (pc := 130) 0 (hz_dec kX6_write 76 rfl) rfl ?_
            refine hz_mulN (pc := 132) (hz_dec kX6_write 77 rfl) ?_
            refine hz_iushr (pc := 133) (hz_dec kX6_write 78 rfl) ?_
            refine hz_eqi (pc := 134) (ushr_nI _ (by omega)) ?_
            refine hz_i2b (pc := 134) (hz_dec kX6_write 79 rfl) ?_
            refine hz_goto (pc := 135) (tgt := 163) (hz_dec kX6_write 80 rfl) (by decide) ?_
            refine hz_bast (pc := 163) (j := nx + k) (hz_dec kX6_write 98 rfl) hD (by omega) (by omega) rfl (by omega) (by omega) ?_
            refine hz_iinc (pc := 164) (i := 5) (w := nI k - 1) (lo2 := [(5, .int (nI k - 1)), (6, .int (nI (l.length + 5 - k))), (4, .int (nI (nx + l.length + 6))), (0, .ref nb), (1, .ref b), (2, .int (nI (l.length))), (3, .int (slI l nx))]) 1 (hz_dec kX6_write 99 rfl) rfl (hz_m1 _) (by decide) rfl ?_
            refine hz_goto (pc := 167) (tgt := 63) (hz_dec kX6_write 100 rfl) (by decide) ?_
            refine hz_pick (pc := 63) [0, 2, 3, 4, 5, 6] rfl ?_
            refine ih (m + 1) _ _ (by omega) (show m + 1 ≤ (l.length + 6) by omega) (hfr.upr (by simp only [outS, and_true]; omega)) ((hz_mne hN (by omega))) (va_up_self _ _ _) (dkR_st (by rw [rcS_len]; omega) hg ?_)
            rw [rcS_s (by omega) (by omega), show 8 * (l.length + 5 - k) = 8 * (3 - (k - (l.length + 2))) by omega]; exact sl_b (shS (slS l nx)) (by omega)
        · skip
          exact absurd (by decide) h3
      · skip
        exact absurd h2 (by decide)
    | some q =>
      subst hfe
      have hq := hfz q rfl
      have hmq : m ≤ min (l.length + 6) q := hm
      refine hz_eqi (pc := 72) (show _ = nI (q - m) from rfl) ?_
      refine hz_z_ne (pc := 72) (tgt := 82) (hz_dec kX6_write 42 rfl) (by decide) (by omega) (fun h2 => ?_) (fun h2 => ?_)
      · skip
        refine hz_aloadn (pc := 82) 2 (hz_dec kX6_write 48 rfl) rfl ?_
        refine hz_get (pc := 83) (hz_dec kX6_write 49 rfl) fo_X6_19 hN (by omega) (by omega) rfl ?_
        refine hz_eqi (pc := 86) (show _ = nI (q - m) from rfl) ?_
        refine hz_z_le (pc := 86) (tgt := 99) (hz_dec kX6_write 50 rfl) (by decide) (by omega) (fun h3 => ?_) (fun h3 => ?_)
        · skip
          exact absurd h3 (by omega)
        · skip
          refine hz_aloadn (pc := 89) 2 (hz_dec kX6_write 51 rfl) rfl ?_
          refine hz_dup (pc := 90) (hz_dec kX6_write 52 rfl) rfl ?_
          refine hz_get (pc := 91) (hz_dec kX6_write 53 rfl) fo_X6_19 hN (by omega) (by omega) rfl ?_
          refine hz_eqi (pc := 94) (show _ = nI (q - m) from rfl) ?_
          refine hz_iconst (pc := 94) (v := nI 1) (hz_dec kX6_write 54 rfl) (by decide) ?_
          refine hz_subN (pc := 95) (hz_dec kX6_write 55 rfl) (by omega) ?_
          refine hz_puti (pc := 96) (hz_dec kX6_write 56 rfl) fo_X6_19 ft_X6_4 hN (by omega) (by omega) (Nat.le_of_ble_eq_true rfl) ?_
          refine hz_mem (pc := 99) (M2 := (va_up M nb (.inr (6, [.int nu, .int (nI 1), .ref (nb + 1), .int (nI nx), .int (nI ((q - m) - 1)), .ref (nb + 21), .ref (nb + 2), .ref (nb + 10), .ref (nb + 13), .ref (nb + 14), .ref (nb + 15), .ref (nb + 18), .int rc, .int rf])))) rfl ?_
          refine hz_iloadn (pc := 99) 4 (hz_dec kX6_write 57 rfl) rfl ?_
          refine hz_bipush (pc := 100) (v := nI 6) (hz_dec kX6_write 58 rfl) (by decide) ?_
          refine hz_addN (pc := 102) (hz_dec kX6_write 59 rfl) ?_
          refine hz_iconst (pc := 103) (v := nI 1) (hz_dec kX6_write 60 rfl) (by decide) ?_
          refine hz_subN (pc := 104) (hz_dec kX6_write 61 rfl) (by omega) ?_
          refine hz_iload (pc := 105) 0 (hz_dec kX6_write 62 rfl) rfl ?_
          refine hz_subN (pc := 107) (hz_dec kX6_write 63 rfl) (by omega) ?_
          refine hz_eqi (pc := 108) (show _ = nI (l.length + 5 - k) by rw [show l.length + 6 - 1 - k = l.length + 5 - k by omega]) ?_
          refine hz_istore (pc := 108) (i := 6) (lo2 := [(6, .int (nI (l.length + 5 - k))), (5, .int (nI k)), (4, .int (nI (nx + l.length + 6))), (0, .ref nb), (1, .ref b), (2, .int (nI (l.length))), (3, .int (slI l nx))]) (hz_dec kX6_write 64 rfl) (by decide) rfl ?_
          refine hz_aloadn (pc := 110) 3 (hz_dec kX6_write 65 rfl) rfl ?_
          refine hz_get (pc := 111) (hz_dec kX6_write 66 rfl) fo_X6_15 (va_up_self _ _ _) (by omega) (by omega) rfl ?_
          refine hz_aloadn (pc := 114) 3 (hz_dec kX6_write 67 rfl) rfl ?_
          refine hz_get (pc := 115) (hz_dec kX6_write 68 rfl) fo_X6_75 (va_up_self _ _ _) (by omega) (by omega) rfl ?_
          refine hz_iload (pc := 118) 1 (hz_dec kX6_write 69 rfl) rfl ?_
          refine hz_addN (pc := 120) (hz_dec kX6_write 70 rfl) ?_
          refine hz_iload (pc := 121) 0 (hz_dec kX6_write 71 rfl) rfl ?_
          refine hz_iconst (pc := 123) (v := nI 4) (hz_dec kX6_write 72 rfl) (by decide) ?_
          refine hz_n_ge (pc := 124) (tgt := 138) (hz_dec kX6_write 73 rfl) (by decide) (by omega) (by omega) (fun h4 => ?_) (fun h4 => ?_)
          · skip
            refine hz_iload (pc := 138) 1 (hz_dec kX6_write 81 rfl) rfl ?_
            refine hz_iconst (pc := 140) (v := nI 2) (hz_dec kX6_write 82 rfl) (by decide) ?_
            refine hz_n_lt (pc := 141) (tgt := 153) (hz_dec kX6_write 83 rfl) (by decide) (by omega) (by omega) (fun h5 => ?_) (fun h5 => ?_)
            · skip
              refine hz_iloadn (pc := 153) 5 (hz_dec kX6_write 90 rfl) rfl ?_
              refine hz_bipush (pc := 154) (v := nI 8) (hz_dec kX6_write 91 rfl) (by decide) ?_
              refine hz_iconst (pc := 156) (v := nI 1) (hz_dec kX6_write 92 rfl) (by decide) ?_
              refine hz_iload (pc := 157) 1 (hz_dec kX6_write 93 rfl) rfl ?_
              refine hz_subN (pc := 159) (hz_dec kX6_write 94 rfl) (by omega) ?_
              refine hz_mulN (pc := 160) (hz_dec kX6_write 95 rfl) ?_
              refine hz_iushr (pc := 161) (hz_dec kX6_write 96 rfl) ?_
              refine hz_eqi (pc := 162) (ushr_nI _ (by omega)) ?_
              refine hz_i2b (pc := 162) (hz_dec kX6_write 97 rfl) ?_
              refine hz_bast (pc := 163) (j := nx + k) (hz_dec kX6_write 98 rfl) (hz_mne hD (by omega)) (by omega) (by omega) rfl (by omega) (by omega) ?_
              refine hz_iinc (pc := 164) (i := 5) (w := nI k - 1) (lo2 := [(5, .int (nI k - 1)), (6, .int (nI (l.length + 5 - k))), (4, .int (nI (nx + l.length + 6))), (0, .ref nb), (1, .ref b), (2, .int (nI (l.length))), (3, .int (slI l nx))]) 1 (hz_dec kX6_write 99 rfl) rfl (hz_m1 _) (by decide) rfl ?_
              refine hz_goto (pc := 167) (tgt := 63) (hz_dec kX6_write 100 rfl) (by decide) ?_
              refine hz_pick (pc := 63) [0, 2, 3, 4, 5, 6] rfl ?_
              refine ih (m + 1) _ _ (by omega) (show m + 1 ≤ min (l.length + 6) q by omega) ((hfr.upr (by simp only [outS, and_true]; omega)).upr (by simp only [outS, and_true]; omega)) ((hz_mne (va_up_self _ _ _) (by omega)).trans (by rw [show q - m - 1 = q - (m + 1) by omega]; rfl)) (va_up_self _ _ _) (dkR_st (by rw [rcS_len]; omega) hg ?_)
              rw [un_nI (by omega), sb_of (bb_nIm (Nat.lt_of_le_of_lt (Nat.div_le_self _ _) (by omega)))]; rcases (show k = 0 ∨ k = 1 by omega) with rfl | rfl; exact (rcS_0 l nx).symm; rw [rcS_1, show 2 ^ (8 * (1 - 1)) = 1 from rfl, Nat.div_one]
            · skip
              refine hz_aloadn (pc := 144) 4 (hz_dec kX6_write 84 rfl) rfl ?_
              refine hz_iload (pc := 145) 1 (hz_dec kX6_write 85 rfl) rfl ?_
              refine hz_iconst (pc := 147) (v := nI 2) (hz_dec kX6_write 86 rfl) (by decide) ?_
              refine hz_subN (pc := 148) (hz_dec kX6_write 87 rfl) (by omega) ?_
              refine hz_bald (pc := 149) (j := k - 2) (hz_dec kX6_write 88 rfl) (hz_mne hB (by omega)) (by omega) (by omega) rfl (by omega) (by omega) ?_
              refine hz_goto (pc := 150) (tgt := 163) (hz_dec kX6_write 89 rfl) (by decide) ?_
              refine hz_bast (pc := 163) (j := nx + k) (hz_dec kX6_write 98 rfl) (hz_mne hD (by omega)) (by omega) (by omega) rfl (by omega) (by omega) ?_
              refine hz_iinc (pc := 164) (i := 5) (w := nI k - 1) (lo2 := [(5, .int (nI k - 1)), (6, .int (nI (l.length + 5 - k))), (4, .int (nI (nx + l.length + 6))), (0, .ref nb), (1, .ref b), (2, .int (nI (l.length))), (3, .int (slI l nx))]) 1 (hz_dec kX6_write 99 rfl) rfl (hz_m1 _) (by decide) rfl ?_
              refine hz_goto (pc := 167) (tgt := 63) (hz_dec kX6_write 100 rfl) (by decide) ?_
              refine hz_pick (pc := 63) [0, 2, 3, 4, 5, 6] rfl ?_
              refine ih (m + 1) _ _ (by omega) (show m + 1 ≤ min (l.length + 6) q by omega) ((hfr.upr (by simp only [outS, and_true]; omega)).upr (by simp only [outS, and_true]; omega)) ((hz_mne (va_up_self _ _ _) (by omega)).trans (by rw [show q - m - 1 = q - (m + 1) by omega]; rfl)) (va_up_self _ _ _) (dkR_st (by rw [rcS_len]; omega) hg ?_)
              rw [rcS_b (by omega) (by omega), hby _ (by omega)]; have q := hA (k - 2) (by omega); rw [Nat.zero_add] at q; exact q
          · skip
            refine hz_iloadn (pc := 127) 6 (hz_dec kX6_write 74 rfl) rfl ?_
            refine hz_bipush (pc := 128) (v := nI 8) (hz_dec kX6_write 75 rfl) (by decide) ?_
            refine hz_iload (pc := 130) 0 (hz_dec kX6_write 76 rfl) rfl ?_
            refine hz_mulN (pc := 132) (hz_dec kX6_write 77 rfl) ?_
            refine hz_iushr (pc := 133) (hz_dec kX6_write 78 rfl) ?_
            refine hz_eqi (pc := 134) (ushr_nI _ (by omega)) ?_
            refine hz_i2b (pc := 134) (hz_dec kX6_write 79 rfl) ?_
            refine hz_goto (pc := 135) (tgt := 163) (hz_dec kX6_write 80 rfl) (by decide) ?_
            refine hz_bast (pc := 163) (j := nx + k) (hz_dec kX6_write 98 rfl) (hz_mne hD (by omega)) (by omega) (by omega) rfl (by omega) (by omega) ?_
            refine hz_iinc (pc := 164) (i := 5) (w := nI k - 1) (lo2 := [(5, .int (nI k - 1)), (6, .int (nI (l.length + 5 - k))), (4, .int (nI (nx + l.length + 6))), (0, .ref nb), (1, .ref b), (2, .int (nI (l.length))), (3, .int (slI l nx))]) 1 (hz_dec kX6_write 99 rfl) rfl (hz_m1 _) (by decide) rfl ?_
            refine hz_goto (pc := 167) (tgt := 63) (hz_dec kX6_write 100 rfl) (by decide) ?_
            refine hz_pick (pc := 63) [0, 2, 3, 4, 5, 6] rfl ?_
            refine ih (m + 1) _ _ (by omega) (show m + 1 ≤ min (l.length + 6) q by omega) ((hfr.upr (by simp only [outS, and_true]; omega)).upr (by simp only [outS, and_true]; omega)) ((hz_mne (va_up_self _ _ _) (by omega)).trans (by rw [show q - m - 1 = q - (m + 1) by omega]; rfl)) (va_up_self _ _ _) (dkR_st (by rw [rcS_len]; omega) hg ?_)
            rw [rcS_s (by omega) (by omega), show 8 * (l.length + 5 - k) = 8 * (3 - (k - (l.length + 2))) by omega]; exact sl_b (shS (slS l nx)) (by omega)
      · skip
        have eO : fzO (some q) (l.length + 6) = false := decide_eq_false (fun c => by have c2 : min (l.length + 6) q = (l.length + 6) := c; omega)
        have eM : fzM (some q) (l.length + 6) = m := by show min (l.length + 6) q = m; omega
        refine hz_aloadn (pc := 75) 2 (hz_dec kX6_write 43 rfl) rfl ?_
        refine hz_iconst (pc := 76) (v := nI 0) (hz_dec kX6_write 44 rfl) (by decide) ?_
        refine hz_putz (pc := 77) (hz_dec kX6_write 45 rfl) fo_X6_9 ft_X6_1 hN (by omega) (by omega) (Nat.le_of_ble_eq_true rfl) rfl rfl ?_
        refine hz_mem (pc := 80) (M2 := (va_up M nb (.inr (6, [.int nu, .int (nI 0), .ref (nb + 1), .int (nI nx), .int (pvI (fzN (some q) m)), .ref (nb + 21), .ref (nb + 2), .ref (nb + 10), .ref (nb + 13), .ref (nb + 14), .ref (nb + 15), .ref (nb + 18), .int rc, .int rf])))) rfl ?_
        refine hz_iconst (pc := 80) (v := nI 0) (hz_dec kX6_write 46 rfl) (by decide) ?_
        refine hz_zret (pc := 81) (hz_dec kX6_write 47 rfl) rfl rfl ⟨by rw [eO]; rfl, rfl, hfr.upr (by simp only [outS, and_true]; omega), (va_up_self _ _ _).trans (by rw [eO]; show _ = ndO nb nu (nI 0) (nI nx) (nI (q - (l.length + 6))) rc rf; rw [show q - (l.length + 6) = q - m by omega]; rfl), g, hz_mne hD (by omega), fun j hj => ?_⟩
        rw [hg j hj]
        unfold dkW
        rw [rcS_len, eM]
set_option maxHeartbeats 4000000 in
set_option maxRecDepth 100000 in
theorem c_wr {κ : hz_C} {z : Nat} {M : hz_M} {nb nx : Nat} {nu rc rf : Int32} (hnb : 63 ≤ nb) (hnbz : nb + 34 ≤ z) {b n : Nat} {f dk : Nat → Int32} {l : by_L} (hB0 : M b = .inl (1, n, .inl f)) (hb8 : 39 ≤ b) (hbz : b < z) (hbo : b < nb ∨ nb + 2 ≤ b) (hn : n < 2 ^ 24) (hA : isA f 0 l) (hln : l.length ≤ n) (hl9 : l.length ≤ 2945) (hrm : nx + l.length + 8 ≤ 12288) {fz : Option Nat} (hfz : ∀ q, fz = some q → q < 2 ^ 31) (hN : M nb = ndO nb nu (nI 1) (nI nx) (pvI fz) rc rf) {g : Nat → Int32} (hD : M (nb + 1) = .inl (1, 12288, .inl g)) (hg : ∀ j, j < 12288 → g j = dk j) : hz_Mt κ xX6_write 1 0 0 [.ref nb, .ref b, .int (nI l.length), .int (slI l nx)] z M (fun r z2 M2 => some (.int (hz_b (fzO fz (l.length + 6)))) = r ∧ z = z2 ∧ frS [(nb, nb + 2)] M M2 ∧ M2 nb = ndO nb nu (hz_b (fzO fz (l.length + 6))) (nI (if fzO fz (l.length + 6) = true then nx + (l.length + 6) else nx)) (pvI (fzN fz (l.length + 6))) rc rf ∧ ∃ g : Nat → Int32, M2 (nb + 1) = .inl (1, 12288, .inl g) ∧ ∀ j, j < 12288 → g j = dkW dk nx (rcS l nx) fz j) := by
  refine hz_ent (lo := [(0, .ref nb), (1, .ref b), (2, .int (nI (l.length))), (3, .int (slI l nx))]) (by decide) (Nat.le_of_ble_eq_true rfl) rfl ?_
  refine hz_iloadn (pc := 0) 2 (hz_dec kX6_write 0 rfl) rfl ?_
  refine hz_z_lt (pc := 1) (tgt := 18) (hz_dec kX6_write 1 rfl) (by decide) (by omega) ?_
  refine hz_iloadn (pc := 4) 2 (hz_dec kX6_write 2 rfl) rfl ?_
  refine hz_aloadn (pc := 5) 1 (hz_dec kX6_write 3 rfl) rfl ?_
  refine hz_alen (pc := 6) (hz_dec kX6_write 4 rfl) hB0 (by decide) (by omega) (by omega) ?_
  refine hz_n_gt (pc := 7) (tgt := 18) (hz_dec kX6_write 5 rfl) (by decide) (by omega) (by omega) (fun h2 => ?_) (fun h2 => ?_)
  · skip
    exact absurd h2 (by omega)
  · skip
    refine hz_aloadn (pc := 10) 0 (hz_dec kX6_write 6 rfl) rfl ?_
    refine hz_iloadn (pc := 11) 2 (hz_dec kX6_write 7 rfl) rfl ?_
    refine hz_xV (pc := 12) (a := nb) (As := [.int (nI (l.length))]) (st := []) (hz_dec kX6_write 8 rfl) co_X6_78 im_X6_hasRoomFor se_X6_hasRoomFor rfl hN (by omega) (by omega) (c_room hN (by omega) (by omega) (by omega) (by omega)) rfl (by decide) ⟨Nat.le_refl _, Nat.le_refl _⟩ (Nat.le_of_ble_eq_true rfl) rfl ?_
    refine hz_if_ne (pc := 15) (tgt := 20) (hz_dec kX6_write 9 rfl) (by decide) (fun h3 => ?_) (fun h3 => ?_)
    · skip
      refine hz_aloadn (pc := 20) 0 (hz_dec kX6_write 12 rfl) rfl ?_
      refine hz_get (pc := 21) (hz_dec kX6_write 13 rfl) fo_X6_75 hN (by omega) (by omega) rfl ?_
      refine hz_iloadn (pc := 24) 2 (hz_dec kX6_write 14 rfl) rfl ?_
      refine hz_addN (pc := 25) (hz_dec kX6_write 15 rfl) ?_
      refine hz_bipush (pc := 26) (v := nI 6) (hz_dec kX6_write 16 rfl) (by decide) ?_
      refine hz_addN (pc := 28) (hz_dec kX6_write 17 rfl) ?_
      refine hz_istore (pc := 29) (i := 4) (lo2 := [(4, .int (nI ((nx + (l.length)) + 6))), (0, .ref nb), (1, .ref b), (2, .int (nI (l.length))), (3, .int (slI l nx))]) (hz_dec kX6_write 18 rfl) (by decide) rfl ?_
      refine hz_aloadn (pc := 31) 1 (hz_dec kX6_write 19 rfl) rfl ?_
      refine hz_get (pc := 32) (hz_dec kX6_write 20 rfl) fo_X6_15 hN (by omega) (by omega) rfl ?_
      refine hz_iload (pc := 35) 0 (hz_dec kX6_write 21 rfl) rfl ?_
      refine hz_lconst (pc := 37) (v := 0) (hz_dec kX6_write 22 rfl) (by decide) ?_
      refine hz_iconst (pc := 38) (v := nI 2) (hz_dec kX6_write 23 rfl) (by decide) ?_
      refine hz_xS (pc := 39) (As := [.ref (nb + 1), .int (nI ((nx + (l.length)) + 6)), .long 0, .int (nI 2)]) (st := []) (hz_dec kX6_write 24 rfl) co_X6_82 sc_X0_put (c_put hD (by omega) (by omega) (by decide) (by omega)) rfl (by decide) ⟨Nat.le_refl _, Nat.le_refl _⟩ (Nat.le_of_ble_eq_true rfl) rfl ?_
      refine hz_aloadn (pc := 42) 1 (hz_dec kX6_write 25 rfl) rfl ?_
      refine hz_get (pc := 43) (hz_dec kX6_write 26 rfl) fo_X6_15 (hz_mne hN (by omega)) (by omega) (by omega) rfl ?_
      refine hz_aloadn (pc := 46) 1 (hz_dec kX6_write 27 rfl) rfl ?_
      refine hz_get (pc := 47) (hz_dec kX6_write 28 rfl) fo_X6_75 (hz_mne hN (by omega)) (by omega) (by omega) rfl ?_
      refine hz_lconst (pc := 50) (v := 0) (hz_dec kX6_write 29 rfl) (by decide) ?_
      refine hz_iconst (pc := 51) (v := nI 2) (hz_dec kX6_write 30 rfl) (by decide) ?_
      refine hz_xS (pc := 52) (As := [.ref (nb + 1), .int (nI nx), .long 0, .int (nI 2)]) (st := []) (hz_dec kX6_write 31 rfl) co_X6_82 sc_X0_put (c_put (va_up_self _ _ _) (by omega) (by omega) (by decide) (by omega)) rfl (by decide) ⟨Nat.le_refl _, Nat.le_refl _⟩ (Nat.le_of_ble_eq_true rfl) rfl ?_
      refine hz_mem (pc := 55) (M2 := (va_up M (nb + 1) (.inl (1, 12288, .inl (bn_put nx 2 0 (bn_put (nx + l.length + 6) 2 0 g)))))) (bx_uu _ _ _ _) ?_
      refine hz_iloadn (pc := 55) 3 (hz_dec kX6_write 32 rfl) rfl ?_
      refine hz_bipush (pc := 56) (v := nI 6) (hz_dec kX6_write 33 rfl) (by decide) ?_
      refine hz_addN (pc := 58) (hz_dec kX6_write 34 rfl) ?_
      refine hz_iconst (pc := 59) (v := nI 1) (hz_dec kX6_write 35 rfl) (by decide) ?_
      refine hz_subN (pc := 60) (hz_dec kX6_write 36 rfl) (by omega) ?_
      refine hz_eqi (pc := 61) (show _ = nI (l.length + 6) - 1 by rw [show l.length + 6 - 1 = l.length + 5 by omega, show l.length + 6 = l.length + 5 + 1 by omega, nI_pred]) ?_
      refine hz_istore (pc := 61) (i := 5) (lo2 := [(5, .int (nI (l.length + 6) - 1)), (4, .int (nI ((nx + (l.length)) + 6))), (0, .ref nb), (1, .ref b), (2, .int (nI (l.length))), (3, .int (slI l nx))]) (hz_dec kX6_write 37 rfl) (by decide) rfl ?_
      refine hz_pick (pc := 63) [0, 1, 2, 3, 4, 5] rfl ?_
      refine hz_bytes ((hz_mne hB0 (by omega))) (by omega) hbz (fun hby => ?_)
      refine c_wr_l hnb hnbz hB0 hb8 hbz hbo hn hA hln hl9 hrm hfz hby (l.length + 6) 0 _ _ (by omega) (Nat.zero_le _) (frS.up (by simp only [outS, and_true]; omega)) (((hz_mne hN (by omega))).trans ?_) (va_up_self _ _ _) (fun j hj => ?_)
      · cases fz with
        | none => rfl
        | some q => rfl
      · rw [dkR_0]
        have z0 : ∀ a j, j < 2 → ∀ h : Nat → Int32, bn_put a 2 0 h (a + j) = 0 := by
          intro a j hj2 h
          rw [bn_put_in 2 0 h j (by decide) hj2]
          rcases (show j = 0 ∨ j = 1 by omega) with rfl | rfl
          · decide
          · decide
        unfold dkZ
        by_cases c1 : j = nx ∨ j = nx + 1
        · rw [if_pos (by omega), show j = nx + (j - nx) by omega]; exact z0 nx (j - nx) (by omega) _
        · rw [bn_put_out _ _ _ _ (by omega)]
          by_cases c2 : j = nx + l.length + 6 ∨ j = nx + l.length + 7
          · rw [if_pos (by omega), show j = nx + l.length + 6 + (j - (nx + l.length + 6)) by omega]; exact z0 _ _ (by omega) _
          · rw [bn_put_out _ _ _ _ (by omega), if_neg (by omega)]; exact hg j hj
    · skip
      exact absurd (of_decide_eq_false (hz_b0 h3)) (fun q => q hrm)
