/-! the law: its loop -/
theorem lw_lim {L i : Nat} (hL : L < 2 ^ 30) (hi : i < 2 ^ 30) (h : ¬ nI L - nI 6 < nI i) : i + 5 < L := by
  rcases (show L = 0 ∨ L = 1 ∨ L = 2 ∨ L = 3 ∨ L = 4 ∨ L = 5 ∨ 6 ≤ L by omega) with c | c | c | c | c | c | c
  · subst c
    rw [Int32.lt_iff_toInt_lt, nI_toInt (by omega), show (nI 0 - nI 6).toInt = -6 by decide] at h
    omega
  · subst c
    rw [Int32.lt_iff_toInt_lt, nI_toInt (by omega), show (nI 1 - nI 6).toInt = -5 by decide] at h
    omega
  · subst c
    rw [Int32.lt_iff_toInt_lt, nI_toInt (by omega), show (nI 2 - nI 6).toInt = -4 by decide] at h
    omega
  · subst c
    rw [Int32.lt_iff_toInt_lt, nI_toInt (by omega), show (nI 3 - nI 6).toInt = -3 by decide] at h
    omega
  · subst c
    rw [Int32.lt_iff_toInt_lt, nI_toInt (by omega), show (nI 4 - nI 6).toInt = -2 by decide] at h
    omega
  · subst c
    rw [Int32.lt_iff_toInt_lt, nI_toInt (by omega), show (nI 5 - nI 6).toInt = -1 by decide] at h
    omega
  · rw [pk_sub c, Int32.lt_iff_toInt_lt, nI_toInt (by omega), nI_toInt (by omega)] at h
    omega
set_option maxHeartbeats 4000000 in
set_option maxRecDepth 100000 in
theorem lw_loop {κ : hz_C} {bb_ L : Nat} {xs : Nat → Int32} {cn sn : Nat} (hcn : cn ≤ 600000) (hsn : sn ≤ 7302250) (hLs : L < 2 ^ 30) {F : by_L} {z B : Nat} : ∀ n i M H, n = L - i → i < 2 ^ 30 → lawI F z B M H → lz_W κ bb_ L xs cn sn 28 [(3, .int (nI i)), (1, .ref 8), (2, .ref B)] [] z M := by
  intro n
  induction n using Nat.strongRecOn with
  | ind n ih =>
    intro i M H hn hi30 hI
    refine lz_iloadn (pc := 28) 0 (hz_dec kL0 16 rfl) rfl ?_
    refine lz_sl (pc := 29) (hz_dec kL0 17 rfl) (hz_dec kL0 18 rfl) ?_
    refine lz_bipush (pc := 31) (v := nI 6) (hz_dec kL0 19 rfl) (by decide) ?_
    refine lz_isub (pc := 33) (hz_dec kL0 20 rfl) ?_
    refine lz_icmp_gt (pc := 34) (tgt := 1995) (hz_dec kL0 21 rfl) (by decide) (fun _ => ?_) (fun h1 => ?_)
    · refine lz_iconst (pc := 1995) (v := 1) (hz_dec kL24 37 rfl) (by decide) ?_
      exact lz_end hcn hsn (hz_dec kL24 38 rfl)
    have hi := lw_lim hLs hi30 h1
    have K : ∀ M2 H2, lawI F z B M2 H2 → lz_W κ bb_ L xs cn sn 1989 [(3, .int (nI i)), (1, .ref 8), (2, .ref B)] [] z M2 := by
      intro M2 H2 hI2
      refine lz_iinc (pc := 1989) (w := nI (i + 6)) 0 (hz_dec kL24 35 rfl) rfl ((congrArg (nI i + ·) (show Int32.ofInt 6 = nI 6 by decide)).trans (nI_add i 6)) (by decide) (by decide) rfl ?_
      refine lz_goto (pc := 1992) (tgt := 28) (hz_dec kL24 36 rfl) (by decide) ?_
      exact ih (L - (i + 6)) (by omega) (i + 6) M2 H2 rfl (by omega) hI2
    refine lz_s0 (pc := 37) (i := i) 0 (hz_dec kL0 22 rfl) (hz_dec kL0 23 rfl) (hz_dec kL0 24 rfl) rfl rfl (by omega) (by omega) ?_
    refine lz_bipush (pc := 40) (v := nI 63) (hz_dec kL0 25 rfl) (by decide) ?_
    refine lz_iand (pc := 42) (hz_dec kL0 26 rfl) ?_
    generalize xs i &&& nI 63 = w
    by_cases hw : w.toInt < 0 ∨ 39 < w.toInt
    · exact lz_swOut (pc := 43) (tgt := 1989) (hz_dec kL0 27 rfl) hw (by decide) (K M H hI)
    rcases (show w.toInt = 0 ∨ w.toInt = 1 ∨ w.toInt = 2 ∨ w.toInt = 3 ∨ w.toInt = 4 ∨ w.toInt = 5 ∨ w.toInt = 6 ∨ w.toInt = 7 ∨ w.toInt = 8 ∨ w.toInt = 9 ∨ w.toInt = 10 ∨ w.toInt = 11 ∨ w.toInt = 12 ∨ w.toInt = 13 ∨ w.toInt = 14 ∨ w.toInt = 15 ∨ w.toInt = 16 ∨ w.toInt = 17 ∨ w.toInt = 18 ∨ w.toInt = 19 ∨ w.toInt = 20 ∨ w.toInt = 21 ∨ w.toInt = 22 ∨ w.toInt = 23 ∨ w.toInt = 24 ∨ w.toInt = 25 ∨ w.toInt = 26 ∨ w.toInt = 27 ∨ w.toInt = 28 ∨ w.toInt = 29 ∨ w.toInt = 30 ∨ w.toInt = 31 ∨ w.toInt = 32 ∨ w.toInt = 33 ∨ w.toInt = 34 ∨ w.toInt = 35 ∨ w.toInt = 36 ∨ w.toInt = 37 ∨ w.toInt = 38 ∨ w.toInt = 39 by omega) with c | c | c | c | c | c | c | c | c | c | c | c | c | c | c | c | c | c | c | c | c | c | c | c | c | c | c | c | c | c | c | c | c | c | c | c | c | c | c | c
    · exact lz_swIn (pc := 43) (tgt := 216) (hz_dec kL0 27 rfl) (by omega) (by omega) (by rw [c]; rfl) (by decide) (lw_c0 hcn hsn hLs hi hI K)
    · exact lz_swIn (pc := 43) (tgt := 279) (hz_dec kL0 27 rfl) (by omega) (by omega) (by rw [c]; rfl) (by decide) (lw_c1 hcn hsn hLs hi hI K)
    · exact lz_swIn (pc := 43) (tgt := 302) (hz_dec kL0 27 rfl) (by omega) (by omega) (by rw [c]; rfl) (by decide) (lw_c2 hcn hsn hLs hi hI K)
    · exact lz_swIn (pc := 43) (tgt := 335) (hz_dec kL0 27 rfl) (by omega) (by omega) (by rw [c]; rfl) (by decide) (lw_c3 hcn hsn hLs hi hI K)
    · exact lz_swIn (pc := 43) (tgt := 385) (hz_dec kL0 27 rfl) (by omega) (by omega) (by rw [c]; rfl) (by decide) (lw_c4 hcn hsn hLs hi hI K)
    · exact lz_swIn (pc := 43) (tgt := 459) (hz_dec kL0 27 rfl) (by omega) (by omega) (by rw [c]; rfl) (by decide) (lw_c5 hcn hsn hLs hi hI K)
    · exact lz_swIn (pc := 43) (tgt := 513) (hz_dec kL0 27 rfl) (by omega) (by omega) (by rw [c]; rfl) (by decide) (lw_c6 hcn hsn hLs hi hI K)
    · exact lz_swIn (pc := 43) (tgt := 526) (hz_dec kL0 27 rfl) (by omega) (by omega) (by rw [c]; rfl) (by decide) (lw_c7 hcn hsn hLs hi hI K)
    · exact lz_swIn (pc := 43) (tgt := 629) (hz_dec kL0 27 rfl) (by omega) (by omega) (by rw [c]; rfl) (by decide) (lw_c8 hcn hsn hLs hi hI K)
    · exact lz_swIn (pc := 43) (tgt := 702) (hz_dec kL0 27 rfl) (by omega) (by omega) (by rw [c]; rfl) (by decide) (lw_c9 hcn hsn hLs hi hI K)
    · exact lz_swIn (pc := 43) (tgt := 795) (hz_dec kL0 27 rfl) (by omega) (by omega) (by rw [c]; rfl) (by decide) (lw_c10 hcn hsn hLs hi hI K)
    · exact lz_swIn (pc := 43) (tgt := 888) (hz_dec kL0 27 rfl) (by omega) (by omega) (by rw [c]; rfl) (by decide) (lw_c11 hcn hsn hLs hi hI K)
    · exact lz_swIn (pc := 43) (tgt := 911) (hz_dec kL0 27 rfl) (by omega) (by omega) (by rw [c]; rfl) (by decide) (lw_c12 hcn hsn hLs hi hI K)
    · exact lz_swIn (pc := 43) (tgt := 944) (hz_dec kL0 27 rfl) (by omega) (by omega) (by rw [c]; rfl) (by decide) (lw_c13 hcn hsn hLs hi hI K)
    · exact lz_swIn (pc := 43) (tgt := 1017) (hz_dec kL0 27 rfl) (by omega) (by omega) (by rw [c]; rfl) (by decide) (lw_c14 hcn hsn hLs hi hI K)
    · exact lz_swIn (pc := 43) (tgt := 1030) (hz_dec kL0 27 rfl) (by omega) (by omega) (by rw [c]; rfl) (by decide) (lw_c15 hcn hsn hLs hi hI K)
    · exact lz_swIn (pc := 43) (tgt := 1093) (hz_dec kL0 27 rfl) (by omega) (by omega) (by rw [c]; rfl) (by decide) (lw_c16 hcn hsn hLs hi hI K)
    · exact lz_swIn (pc := 43) (tgt := 1126) (hz_dec kL0 27 rfl) (by omega) (by omega) (by rw [c]; rfl) (by decide) (lw_c17 hcn hsn hLs hi hI K)
    · exact lz_swIn (pc := 43) (tgt := 1159) (hz_dec kL0 27 rfl) (by omega) (by omega) (by rw [c]; rfl) (by decide) (lw_c18 hcn hsn hLs hi hI K)
    · exact lz_swIn (pc := 43) (tgt := 1202) (hz_dec kL0 27 rfl) (by omega) (by omega) (by rw [c]; rfl) (by decide) (lw_c19 hcn hsn hLs hi hI K)
    · exact lz_swIn (pc := 43) (tgt := 1245) (hz_dec kL0 27 rfl) (by omega) (by omega) (by rw [c]; rfl) (by decide) (lw_c20 hcn hsn hLs hi hI K)
    · exact lz_swIn (pc := 43) (tgt := 1268) (hz_dec kL0 27 rfl) (by omega) (by omega) (by rw [c]; rfl) (by decide) (lw_c21 hcn hsn hLs hi hI K)
    · exact lz_swIn (pc := 43) (tgt := 1301) (hz_dec kL0 27 rfl) (by omega) (by omega) (by rw [c]; rfl) (by decide) (lw_c22 hcn hsn hLs hi hI K)
    · exact lz_swIn (pc := 43) (tgt := 1334) (hz_dec kL0 27 rfl) (by omega) (by omega) (by rw [c]; rfl) (by decide) (lw_c23 hcn hsn hLs hi hI K)
    · exact lz_swIn (pc := 43) (tgt := 1377) (hz_dec kL0 27 rfl) (by omega) (by omega) (by rw [c]; rfl) (by decide) (lw_c24 hcn hsn hLs hi hI K)
    · exact lz_swIn (pc := 43) (tgt := 1400) (hz_dec kL0 27 rfl) (by omega) (by omega) (by rw [c]; rfl) (by decide) (lw_c25 hcn hsn hLs hi hI K)
    · exact lz_swIn (pc := 43) (tgt := 1423) (hz_dec kL0 27 rfl) (by omega) (by omega) (by rw [c]; rfl) (by decide) (lw_c26 hcn hsn hLs hi hI K)
    · exact lz_swIn (pc := 43) (tgt := 1446) (hz_dec kL0 27 rfl) (by omega) (by omega) (by rw [c]; rfl) (by decide) (lw_c27 hcn hsn hLs hi hI K)
    · exact lz_swIn (pc := 43) (tgt := 1479) (hz_dec kL0 27 rfl) (by omega) (by omega) (by rw [c]; rfl) (by decide) (lw_c28 hcn hsn hLs hi hI K)
    · exact lz_swIn (pc := 43) (tgt := 1512) (hz_dec kL0 27 rfl) (by omega) (by omega) (by rw [c]; rfl) (by decide) (lw_c29 hcn hsn hLs hi hI K)
    · exact lz_swIn (pc := 43) (tgt := 1555) (hz_dec kL0 27 rfl) (by omega) (by omega) (by rw [c]; rfl) (by decide) (lw_c30 hcn hsn hLs hi hI K)
    · exact lz_swIn (pc := 43) (tgt := 1588) (hz_dec kL0 27 rfl) (by omega) (by omega) (by rw [c]; rfl) (by decide) (lw_c31 hcn hsn hLs hi hI K)
    · exact lz_swIn (pc := 43) (tgt := 1611) (hz_dec kL0 27 rfl) (by omega) (by omega) (by rw [c]; rfl) (by decide) (lw_c32 hcn hsn hLs hi hI K)
    · exact lz_swIn (pc := 43) (tgt := 1654) (hz_dec kL0 27 rfl) (by omega) (by omega) (by rw [c]; rfl) (by decide) (lw_c33 hcn hsn hLs hi hI K)
    · exact lz_swIn (pc := 43) (tgt := 1698) (hz_dec kL0 27 rfl) (by omega) (by omega) (by rw [c]; rfl) (by decide) (lw_c34 hcn hsn hLs hi hI K)
    · exact lz_swIn (pc := 43) (tgt := 1731) (hz_dec kL0 27 rfl) (by omega) (by omega) (by rw [c]; rfl) (by decide) (lw_c35 hcn hsn hLs hi hI K)
    · exact lz_swIn (pc := 43) (tgt := 1775) (hz_dec kL0 27 rfl) (by omega) (by omega) (by rw [c]; rfl) (by decide) (lw_c36 hcn hsn hLs hi hI K)
    · exact lz_swIn (pc := 43) (tgt := 1848) (hz_dec kL0 27 rfl) (by omega) (by omega) (by rw [c]; rfl) (by decide) (lw_c37 hcn hsn hLs hi hI K)
    · exact lz_swIn (pc := 43) (tgt := 1912) (hz_dec kL0 27 rfl) (by omega) (by omega) (by rw [c]; rfl) (by decide) (lw_c38 hcn hsn hLs hi hI K)
    · exact lz_swIn (pc := 43) (tgt := 1956) (hz_dec kL0 27 rfl) (by omega) (by omega) (by rw [c]; rfl) (by decide) (lw_c39 hcn hsn hLs hi hI K)
