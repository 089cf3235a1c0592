/-! sign: the class -/
def sgH (li : List di_I) (lo : List do_O) (h : Int32) : Int32 := sh_h (sgF li lo h (fun _ _ => 0)) 0 (sgL li lo) 0
def sgS (li : List di_I) (lo : List do_O) (h : Int32) (q x : Nat) : Int32 := sb_b (byl (ky_ss (ky_b (diL li q).2.2 (x / 8)) (x / 8) 0 (dgA (sgH li lo h) (x / 8))) (x % 8))
def sgT (li : List di_I) (lo : List do_O) (h : Int32) : by_L := cutL (sgF li lo h (sgS li lo h)) 0 (sgL li lo)
theorem sgT_len (li : List di_I) (lo : List do_O) (h : Int32) : (sgT li lo h).length = sgL li lo := cutL_len _ _ _
theorem sgL_b {li : List di_I} {lo : List do_O} (h1 : li.length ≤ 4) (h2 : lo.length ≤ 4) : 6 ≤ sgL li lo ∧ sgL li lo ≤ 358 ∧ 2 + 73 * li.length ≤ sgL li lo := by
  unfold sgL tx_oa
  split <;> omega
theorem cutL_c {f g : Nat → Int32} {n : Nat} (h : ∀ j, j < n → f j = g j) : cutL f 0 n = cutL g 0 n := by
  unfold cutL
  refine List.map_congr_left (fun j hj => ?_)
  rw [Nat.zero_add]
  exact h j (List.mem_range.mp hj)
theorem sgZ_q {n j : Nat} (h : sgZ n j = true) : ∃ q r, q < n ∧ 9 ≤ r ∧ r < 73 ∧ j = 2 + 73 * q + r := by
  have q := of_decide_eq_true h
  exact ⟨(j - 2) / 73, (j - 2) % 73, by omega, by omega, by omega, by omega⟩
theorem sgF_z {li : List di_I} {lo : List do_O} {h : Int32} {s1 s2 : Nat → Nat → Int32} {j : Nat} (hz : sgZ li.length j = false) : sgF li lo h s1 j = sgF li lo h s2 j := by
  have q := of_decide_eq_false hz
  unfold sgF
  by_cases c0 : j = 0
  · rw [if_pos c0, if_pos c0]
  · rw [if_neg c0, if_neg c0]
    by_cases c1 : j = 1
    · rw [if_pos c1, if_pos c1]
    · rw [if_neg c1, if_neg c1]
      by_cases c2 : j < 2 + tx_oa li.length
      · rw [if_pos c2, if_pos c2]
        by_cases c3 : li.length = 0
        · rw [if_pos c3, if_pos c3]
        · rw [if_neg c3, if_neg c3]
          rw [oa_n c3] at c2
          by_cases c4 : (j - 2) % 73 < 8
          · rw [if_pos c4, if_pos c4]
          · rw [if_neg c4, if_neg c4, if_pos (by omega), if_pos (by omega)]
      · rw [if_neg c2, if_neg c2]
theorem sgU_hash {li : List di_I} {lo : List do_O} {h : Int32} {g : Nat → Int32} (hg : sgU li lo h g (sgL li lo)) : sh_h (sgB g 0 li.length) 0 (sgL li lo) = sh_h (sgF li lo h (fun _ _ => 0)) 0 (sgL li lo) := by
  refine sh_h_c (fun i hi => ?_)
  rw [Nat.zero_add]
  unfold sgB
  cases hz : sgZ li.length i with
  | true =>
    obtain ⟨q, r, hq, hr, hr2, e⟩ := sgZ_q hz
    rw [if_pos rfl, e, sgF_in hq hr2, if_neg (by omega), if_neg (by omega)]
  | false =>
    rw [if_neg (fun c => nomatch c), Nat.zero_add, hg i hi hz]
/-- signed as far as the first i inputs -/
def sgV (li : List di_I) (lo : List do_O) (h : Int32) (g : Nat → Int32) (i : Nat) : Prop := ∀ j, j < sgL li lo → (sgZ li.length j = false ∨ j < 2 + 73 * i) → g j = sgF li lo h (sgS li lo h) j
theorem sgV_0 {li : List di_I} {lo : List do_O} {h : Int32} {g : Nat → Int32} (hg : sgU li lo h g (sgL li lo)) : sgV li lo h g 0 := by
  intro j hj hc
  have hz : sgZ li.length j = false := by
    rcases hc with c | c
    · exact c
    · exact decide_eq_false (by omega)
  rw [hg j hj hz]
  exact sgF_z hz
theorem sgV_s {li : List di_I} {lo : List do_O} {h : Int32} {g g2 : Nat → Int32} {i : Nat} (hi : i < li.length) (hg : sgV li lo h g i) (h1 : ∀ x, x < 64 → g2 (2 + 73 * i + 9 + x) = sgS li lo h i x) (h2 : ∀ q, q < 2 + 73 * i + 9 ∨ 2 + 73 * i + 9 + 64 ≤ q → g2 q = g q) : sgV li lo h g2 (i + 1) := by
  intro j hj hc
  rcases (show (j < 2 + 73 * i + 9 ∨ 2 + 73 * i + 9 + 64 ≤ j) ∨ (2 + 73 * i + 9 ≤ j ∧ j < 2 + 73 * i + 9 + 64) by omega) with c | c
  · rw [h2 j c]
    refine hg j hj ?_
    rcases hc with d | d
    · exact Or.inl d
    · rcases (show j < 2 + 73 * i ∨ 2 + 73 * i ≤ j by omega) with e | e
      · exact Or.inr e
      · exact Or.inl (decide_eq_false (by omega))
  · have e := h1 (j - (2 + 73 * i + 9)) (by omega)
    rw [show 2 + 73 * i + 9 + (j - (2 + 73 * i + 9)) = j by omega] at e
    rw [e]
    have e3 := sgF_in (li := li) (lo := lo) (h := h) (sg := sgS li lo h) (i := i) (r := j - (2 + 73 * i)) hi (by omega)
    rw [show 2 + 73 * i + (j - (2 + 73 * i)) = j by omega] at e3
    rw [e3, if_neg (by omega), if_neg (by omega), show j - (2 + 73 * i) - 9 = j - (2 + 73 * i + 9) by omega]
theorem sgV_e {li : List di_I} {lo : List do_O} {h : Int32} {g : Nat → Int32} (hg : sgV li lo h g li.length) : cutL g 0 (sgL li lo) = sgT li lo h := by
  refine cutL_c (fun j hj => hg j hj ?_)
  cases hz : sgZ li.length j with
  | false => exact Or.inl rfl
  | true => exact Or.inr (of_decide_eq_true hz).2.1
theorem bI_n {n : Nat} (h : n ≤ 4) : bI (nI n) = nI n := by
  rcases (show n = 0 ∨ n = 1 ∨ n = 2 ∨ n = 3 ∨ n = 4 by omega) with c | c | c | c | c <;> rw [c] <;> decide
set_option maxHeartbeats 4000000 in
set_option maxRecDepth 100000 in
theorem c_sign_l {κ : hz_C} {z : Nat} {M0 : hz_M} {H : ho_H} (hz : 63 + 34 * (hoN H).length ≤ z) (hnn : (hoN H).length ≤ 6) {h : Int32} : ∀ k i g M ll fr kn, k = (hoI H).length - i → i ≤ (hoI H).length → frS [(8, 63 + 34 * (hoN H).length)] M0 M → hcR M z (hot H (cutL g 0 (sgL (hoI H) (hoU H))) (hoE H)) ll fr kn → M 56 = .inl (1, 4000, .inl g) → sgV (hoI H) (hoU H) h g i → (∃ q : Nat → Int32, M 15 = .inl (0, 8, .inl q) ∧ ∀ j, j < 8 → q j = nI (dgA (sgH (hoI H) (hoU H) h) j)) → hz_W κ xX11_sign 3 0 0 (fun r z2 M3 => some (.int (nI (sgL (hoI H) (hoU H)))) = r ∧ z = z2 ∧ frS [(8, 63 + 34 * (hoN H).length)] M0 M3 ∧ ∃ (ll : Nat) (fr kn : Int32), hcR M3 z (hot H (sgT (hoI H) (hoU H) h) (hoE H)) ll fr kn) 0 0 60 [(2, .int (nI i)), (0, .ref 8)] [] z M := by
  intro k
  induction k using Nat.strongRecOn with
  | ind k ih =>
  intro i g M ll fr kn hk hi hf hR h56 hg hq
  obtain ⟨q15, h15, hq15⟩ := hq
  have hH : M 8 = hoO (sgL (hoI H) (hoU H)) (hoE H) := by have q := hR.1; rw [show (hoT (hot H (cutL g 0 (sgL (hoI H) (hoU H))) (hoE H))).length = sgL (hoI H) (hoU H) from cutL_len _ _ _] at q; exact q
  have hdf : dfR M (hoI H) (hoU H) := hR.2.2.2.2.2.2.2.2.2.2
  obtain ⟨d1, d2, d3, ⟨f1, f2, f3, k1, k2, k3, dX⟩, f4, f5, k4, k5, oX⟩ := id hdf
  have hsb := sgL_b d2 d3
  have hJ := hR.2.2.2.1
  have hck : ck_k M z := hJ.2.2.2.2.2.2.2.1
  have hcs : ck_s M := hJ.2.2.2.2.2.2.2.2.1
  have hz63 : 63 ≤ z := by omega
  refine hz_iloadn (pc := 60) 0 (hz_dec kX11_sign 30 rfl) rfl ?_
  refine hz_aloadn (pc := 61) 1 (hz_dec kX11_sign 31 rfl) rfl ?_
  refine hz_get (pc := 62) (hz_dec kX11_sign 32 rfl) fo_X11_53 hH (by omega) (by omega) rfl ?_
  refine hz_get (pc := 65) (hz_dec kX11_sign 33 rfl) fo_X11_152 d1 (by omega) (by omega) rfl ?_
  refine hz_n_ge (pc := 68) (tgt := 130) (hz_dec kX11_sign 34 rfl) (by decide) (by omega) (by omega) (fun h1 => ?_) (fun h1 => ?_)
  · skip
    have e : i = (hoI H).length := by omega
    rw [e] at hg
    rw [sgV_e hg] at hR
    refine hz_aloadn (pc := 130) 1 (hz_dec kX11_sign 64 rfl) rfl ?_
    refine hz_get (pc := 131) (hz_dec kX11_sign 65 rfl) fo_X11_124 hH (by omega) (by omega) rfl ?_
    exact hz_iret (pc := 134) (hz_dec kX11_sign 66 rfl) rfl ⟨rfl, rfl, hf, ll, fr, kn, hR⟩
  · skip
    refine hz_aloadn (pc := 71) 1 (hz_dec kX11_sign 35 rfl) rfl ?_
    refine hz_get (pc := 72) (hz_dec kX11_sign 36 rfl) fo_X11_30 hH (by omega) (by omega) rfl ?_
    refine hz_aloadn (pc := 75) 1 (hz_dec kX11_sign 37 rfl) rfl ?_
    refine hz_get (pc := 76) (hz_dec kX11_sign 38 rfl) fo_X11_53 hH (by omega) (by omega) rfl ?_
    refine hz_get (pc := 79) (hz_dec kX11_sign 39 rfl) fo_X11_196 d1 (by omega) (by omega) rfl ?_
    refine hz_iloadn (pc := 82) 0 (hz_dec kX11_sign 40 rfl) rfl ?_
    refine hz_lald (pc := 83) (j := i) (hz_dec kX11_sign 41 rfl) k3 (by omega) (by omega) rfl (by omega) (by omega) ?_
    refine hz_eql (pc := 84) (dX i h1).2.2 ?_
    refine hz_callV (pc := 84) (a := 13) (As := [.long ((diL (hoI H) i).2.2)]) (st := []) (hz_dec kX11_sign 42 rfl) co_X11_199 im_X4_startFrom se_X4_startFrom rfl hck.2.1 (by omega) (by omega) (c_start hck hcs (sd := (diL (hoI H) i).2.2)) rfl (by decide) ⟨Nat.le_refl _, Nat.le_refl _⟩ (Nat.le_of_ble_eq_true rfl) rfl (fun r9 z9 M1 hp9 => ?_)
    obtain ⟨rfl, rfl, hf1, hs1, p1, hp1, hpx1⟩ := hp9
    have hck1 := hck.fr hf1 rfl rfl
    have hH1 := (hf1.z 8 rfl).trans hH
    have h151 := (hf1.z 15 rfl).trans h15
    refine hz_aloadn (pc := 87) 1 (hz_dec kX11_sign 43 rfl) rfl ?_
    refine hz_get (pc := 88) (hz_dec kX11_sign 44 rfl) fo_X11_30 hH1 (by omega) (by omega) rfl ?_
    refine hz_gets (pc := 91) (k := 2) (hz_dec kX11_sign 45 rfl) (by decide) gs_X11_203 ?_
    refine hz_aloadn (pc := 94) 1 (hz_dec kX11_sign 46 rfl) rfl ?_
    refine hz_get (pc := 95) (hz_dec kX11_sign 47 rfl) fo_X11_30 hH1 (by omega) (by omega) rfl ?_
    refine hz_get (pc := 98) (hz_dec kX11_sign 48 rfl) fo_X11_206 hck1.2.1 (by omega) (by omega) rfl ?_
    refine hz_stat (fun hT => ?_)
    refine hz_callV (pc := 101) (a := 13) (As := [.ref 2, .ref 15]) (st := []) (hz_dec kX11_sign 49 rfl) co_X11_209 im_X4_climb se_X4_climb rfl hck1.2.1 (by omega) (by omega) (c_climb (a := fun _ => 0) (b := dgA (sgH (hoI H) (hoU H) h)) (p0 := p1) hck1 hs1 (hT 2 (by decide)) h151 (Or.inl (by decide)) (Or.inr ⟨by decide, by omega⟩) (by decide) (by decide) st_0 (fun x hx => ⟨hq15 x hx, dgA_le _ _⟩) hp1) rfl (by decide) ⟨Nat.le_refl _, Nat.le_refl _⟩ (Nat.le_of_ble_eq_true rfl) rfl (fun r9 z9 M2 hp9 => ?_)
    obtain ⟨rfl, rfl, hf2, hs2, p2, hp2, hpx2⟩ := hp9
    have hck2 := hck1.fr hf2 rfl rfl
    have hH2 := (hf2.z 8 rfl).trans hH1
    have h152 := (hf2.z 15 rfl).trans h151
    have h562 := (hf2.z 56 rfl).trans ((hf1.z 56 rfl).trans h56)
    have hf12 : frl 0 [10, 11, 14, 17] M M2 := hf1.tr hf2 rfl rfl
    have hJ2 : juS M2 z := hJ.k hf12 rfl rfl rfl hs2
    have hR2 : hcR M2 z (hot H (cutL g 0 (sgL (hoI H) (hoU H))) (hoE H)) ll fr kn := hR.j (hf12.S0 rfl) hJ2
    refine hz_aloadn (pc := 104) 1 (hz_dec kX11_sign 50 rfl) rfl ?_
    refine hz_get (pc := 105) (hz_dec kX11_sign 51 rfl) fo_X11_30 hH2 (by omega) (by omega) rfl ?_
    refine hz_aloadn (pc := 108) 1 (hz_dec kX11_sign 52 rfl) rfl ?_
    refine hz_get (pc := 109) (hz_dec kX11_sign 53 rfl) fo_X11_72 hH2 (by omega) (by omega) rfl ?_
    refine hz_iconst (pc := 112) (v := nI 2) (hz_dec kX11_sign 54 rfl) (by decide) ?_
    refine hz_iloadn (pc := 113) 0 (hz_dec kX11_sign 55 rfl) rfl ?_
    refine hz_bipush (pc := 114) (v := nI 73) (hz_dec kX11_sign 56 rfl) (by decide) ?_
    refine hz_mulN (pc := 116) (hz_dec kX11_sign 57 rfl) ?_
    refine hz_addN (pc := 117) (hz_dec kX11_sign 58 rfl) ?_
    refine hz_bipush (pc := 118) (v := nI 9) (hz_dec kX11_sign 59 rfl) (by decide) ?_
    refine hz_addN (pc := 120) (hz_dec kX11_sign 60 rfl) ?_
    refine hz_eqi (pc := 121) (show nI (2 + i * 73 + 9) = nI (2 + 73 * i + 9) by rw [show 2 + i * 73 + 9 = 2 + 73 * i + 9 by omega]) ?_
    refine hz_callV (pc := 121) (a := 13) (As := [.ref 56, .int (nI (2 + 73 * i + 9))]) (st := []) (hz_dec kX11_sign 61 rfl) co_X11_213 im_X4_save se_X4_save rfl hck2.2.1 (by omega) (by omega) (c_save hck2.2.1 hz63 hp2 h562 (by decide) (by omega) (by decide) (at_ := 2 + 73 * i + 9) (by omega)) rfl (by decide) ⟨Nat.le_refl _, Nat.le_refl _⟩ (Nat.le_of_ble_eq_true rfl) rfl (fun r9 z9 M3 hp9 => ?_)
    obtain ⟨rfl, rfl, g3, u3, v3, rfl⟩ := hp9
    have hg3 : sgV (hoI H) (hoU H) h g3 (i + 1) := sgV_s h1 hg (fun x hx => by rw [u3 x hx, hpx2 (x / 8) (by omega), hpx1 (x / 8) (by omega)]; rfl) v3
    have hf3 : frS [(8, 9), (56, 57)] M2 (va_up M2 56 (.inl (1, 4000, .inl g3))) := frS.rf.upr (a := 56) (by simp only [outS, and_true]; omega)
    have hR3 : hcR (va_up M2 56 (.inl (1, 4000, .inl g3))) z (hot H (cutL g3 0 (sgL (hoI H) (hoU H))) (hoE H)) ll fr kn := hcR.t (H := (hot H (cutL g 0 (sgL (hoI H) (hoU H))) (hoE H))) hR2 hf3 (by rw [cutL_len]; exact hz_mne hH2 (by decide)) ⟨g3, va_up_self _ _ _, isA_cut _ _ _⟩
    have hf03 : frS [(8, 63 + 34 * (hoN H).length)] M0 (va_up M2 56 (.inl (1, 4000, .inl g3))) := (hf.tr ((hf12.S0 (lo := 9) (hi := 39) (S := []) rfl).mono (fun q (h9 : outS [(8, 63 + 34 * (hoN H).length)] q) => ⟨by have r := h9.1; omega, trivial⟩))).tr (hf3.mono (fun q (h9 : outS [(8, 63 + 34 * (hoN H).length)] q) => ⟨by have r := h9.1; omega, by have r := h9.1; omega, trivial⟩))
    refine hz_incN (pc := 124) (i := 2) (lo2 := [(2, .int (nI (i + 1))), (0, .ref 8)]) 0 (hz_dec kX11_sign 62 rfl) rfl (by decide) rfl ?_
    refine hz_goto (pc := 127) (tgt := 60) (hz_dec kX11_sign 63 rfl) (by decide) ?_
    refine hz_pick (pc := 60) [0, 1] rfl ?_
    exact ih ((hoI H).length - (i + 1)) (by omega) (i + 1) g3 _ ll fr kn rfl (by omega) hf03 hR3 (va_up_self _ _ _) hg3 ⟨q15, hz_mne h152 (by decide), hq15⟩
set_option maxHeartbeats 4000000 in
set_option maxRecDepth 100000 in
theorem c_signB {κ : hz_C} {z : Nat} {M : hz_M} {H : ho_H} (hz : 63 + 34 * (hoN H).length ≤ z) (hnn : (hoN H).length ≤ 6) (hT4 : (hoT H).length ≤ 4000) {ll : Nat} {fr kn : Int32} (hR : hcR M z H ll fr kn) {h : Int32} (hb : (hoU H).length = 0 ∨ ((hoI H).length = 0 ∧ h < 0)) : hz_Mt κ xX11_sign 3 0 0 [.ref 8, .int h] z M (hcP M z H (.int (-1)) H) := by
  refine hz_ent (lo := [(0, .ref 8), (1, .int h)]) (by decide) (Nat.le_of_ble_eq_true rfl) rfl ?_
  have hH := hR.1
  have hNs := hR.2.1
  obtain ⟨hO, hQ, hD⟩ := id hR.2.2.2.2.1
  obtain ⟨g53, h53⟩ := hR.2.2.2.2.2.1
  have hJ := hR.2.2.2.1
  obtain ⟨g56, h56, hT56⟩ := hR.2.2.2.2.2.2.2.2.2.1
  have hdf := hR.2.2.2.2.2.2.2.2.2.2
  have hck : ck_k M z := hJ.2.2.2.2.2.2.2.1
  have hcs : ck_s M := hJ.2.2.2.2.2.2.2.2.1
  have hz63 : 63 ≤ z := by omega
  have d2 := hdf.2.1
  have d3 := hdf.2.2.1
  refine hz_aloadn (pc := 0) 0 (hz_dec kX11_sign 0 rfl) rfl ?_
  refine hz_get (pc := 1) (hz_dec kX11_sign 1 rfl) fo_X11_53 hH (by omega) (by omega) rfl ?_
  refine hz_get (pc := 4) (hz_dec kX11_sign 2 rfl) fo_X11_155 hdf.1 (by omega) (by omega) rfl ?_
  refine hz_z_eq (pc := 7) (tgt := 24) (hz_dec kX11_sign 3 rfl) (by decide) (by omega) (fun h1 => ?_) (fun h1 => ?_)
  · skip
    refine hz_iconst (pc := 24) (v := (-1)) (hz_dec kX11_sign 10 rfl) (by decide) ?_
    exact hz_iret (pc := 25) (hz_dec kX11_sign 11 rfl) rfl (hcP.no hR _)
  · skip
    refine hz_aloadn (pc := 10) 0 (hz_dec kX11_sign 4 rfl) rfl ?_
    refine hz_get (pc := 11) (hz_dec kX11_sign 5 rfl) fo_X11_53 hH (by omega) (by omega) rfl ?_
    refine hz_get (pc := 14) (hz_dec kX11_sign 6 rfl) fo_X11_152 hdf.1 (by omega) (by omega) rfl ?_
    refine hz_z_ne (pc := 17) (tgt := 26) (hz_dec kX11_sign 7 rfl) (by decide) (by omega) (fun h2 => ?_) (fun h2 => ?_)
    · skip
      exact absurd hb (by omega)
    · skip
      refine hz_iloadn (pc := 20) 1 (hz_dec kX11_sign 8 rfl) rfl ?_
      refine hz_if_ge (pc := 21) (tgt := 26) (hz_dec kX11_sign 9 rfl) (by decide) (fun h3 => ?_) (fun h3 => ?_)
      · skip
        exact absurd (hb.resolve_left (by omega)).2 (Int32.not_lt.mpr h3)
      · skip
        refine hz_iconst (pc := 24) (v := (-1)) (hz_dec kX11_sign 10 rfl) (by decide) ?_
        exact hz_iret (pc := 25) (hz_dec kX11_sign 11 rfl) rfl (hcP.no hR _)
set_option maxHeartbeats 4000000 in
set_option maxRecDepth 100000 in
theorem c_sign {κ : hz_C} {z : Nat} {M : hz_M} {H : ho_H} (hz : 63 + 34 * (hoN H).length ≤ z) (hnn : (hoN H).length ≤ 6) (hT4 : (hoT H).length ≤ 4000) {ll : Nat} {fr kn : Int32} (hR : hcR M z H ll fr kn) {h : Int32} (hu : ¬ (hoU H).length = 0) (hi : ¬ ((hoI H).length = 0 ∧ h < 0)) : hz_Mt κ xX11_sign 3 0 0 [.ref 8, .int h] z M (hcP M z H (.int (nI (sgL (hoI H) (hoU H)))) (hot H (sgT (hoI H) (hoU H) h) (hoE H))) := by
  refine hz_ent (lo := [(0, .ref 8), (1, .int h)]) (by decide) (Nat.le_of_ble_eq_true rfl) rfl ?_
  have hH := hR.1
  have hNs := hR.2.1
  obtain ⟨hO, hQ, hD⟩ := id hR.2.2.2.2.1
  obtain ⟨g53, h53⟩ := hR.2.2.2.2.2.1
  have hJ := hR.2.2.2.1
  obtain ⟨g56, h56, hT56⟩ := hR.2.2.2.2.2.2.2.2.2.1
  have hdf := hR.2.2.2.2.2.2.2.2.2.2
  have hck : ck_k M z := hJ.2.2.2.2.2.2.2.1
  have hcs : ck_s M := hJ.2.2.2.2.2.2.2.2.1
  have hz63 : 63 ≤ z := by omega
  have d2 := hdf.2.1
  have d3 := hdf.2.2.1
  have hsb := sgL_b d2 d3
  refine hz_aloadn (pc := 0) 0 (hz_dec kX11_sign 0 rfl) rfl ?_
  refine hz_get (pc := 1) (hz_dec kX11_sign 1 rfl) fo_X11_53 hH (by omega) (by omega) rfl ?_
  refine hz_get (pc := 4) (hz_dec kX11_sign 2 rfl) fo_X11_155 hdf.1 (by omega) (by omega) rfl ?_
  refine hz_z_eq (pc := 7) (tgt := 24) (hz_dec kX11_sign 3 rfl) (by decide) (by omega) (fun h1 => ?_) (fun h1 => ?_)
  · skip
    exact absurd h1 hu
  · skip
    refine hz_aloadn (pc := 10) 0 (hz_dec kX11_sign 4 rfl) rfl ?_
    refine hz_get (pc := 11) (hz_dec kX11_sign 5 rfl) fo_X11_53 hH (by omega) (by omega) rfl ?_
    refine hz_get (pc := 14) (hz_dec kX11_sign 6 rfl) fo_X11_152 hdf.1 (by omega) (by omega) rfl ?_
    refine hz_z_ne (pc := 17) (tgt := 26) (hz_dec kX11_sign 7 rfl) (by decide) (by omega) (fun h2 => ?_) (fun h2 => ?_)
    · skip
      refine hz_aloadn (pc := 26) 0 (hz_dec kX11_sign 12 rfl) rfl ?_
      refine hz_aloadn (pc := 27) 0 (hz_dec kX11_sign 13 rfl) rfl ?_
      refine hz_get (pc := 28) (hz_dec kX11_sign 14 rfl) fo_X11_53 hH (by omega) (by omega) rfl ?_
      refine hz_aloadn (pc := 31) 0 (hz_dec kX11_sign 15 rfl) rfl ?_
      refine hz_get (pc := 32) (hz_dec kX11_sign 16 rfl) fo_X11_72 hH (by omega) (by omega) rfl ?_
      refine hz_iloadn (pc := 35) 1 (hz_dec kX11_sign 17 rfl) rfl ?_
      refine hz_callV (pc := 36) (a := 39) (As := [.ref 56, .int h]) (st := [.ref 8]) (hz_dec kX11_sign 18 rfl) co_X11_189 im_X2_write se_X2_write rfl hdf.1 (by omega) (by omega) (c_wrt hz63 hdf (h := h) h56) rfl (by decide) ⟨Nat.le_refl _, Nat.le_refl _⟩ (Nat.le_of_ble_eq_true rfl) rfl (fun r9 z9 M2 hp9 => ?_)
      obtain ⟨rfl, rfl, g, hg, rfl⟩ := hp9
      have hH1 : (va_up M 56 (.inl (1, 4000, .inl g))) 8 = _ := hz_mne hH (by decide)
      refine hz_puti (pc := 39) (hz_dec kX11_sign 19 rfl) fo_X11_124 ft_X11_8 hH1 (by omega) (by omega) (Nat.le_of_ble_eq_true rfl) ?_
      refine hz_mem (pc := 42) (M2 := (va_up (va_up M 56 (.inl (1, 4000, .inl g))) 8 (.inr (11, [.ref 9, .ref 13, .ref 20, .ref 25, .ref 39, .ref 45, .ref 55, .ref 56, .int (nI (sgL (hoI H) (hoU H))), .int (hoE H), .ref 57, .ref 58, .ref 61])))) rfl ?_
      have hf1 : frS [(8, 9), (56, 57)] M (va_up (va_up M 56 (.inl (1, 4000, .inl g))) 8 (.inr (11, [.ref 9, .ref 13, .ref 20, .ref 25, .ref 39, .ref 45, .ref 55, .ref 56, .int (nI (sgL (hoI H) (hoU H))), .int (hoE H), .ref 57, .ref 58, .ref 61]))) := (frS.rf.upr (a := 56) (by simp only [outS, and_true]; omega)).upr (a := 8) (by simp only [outS, and_true]; omega)
      have hR1 : hcR (va_up (va_up M 56 (.inl (1, 4000, .inl g))) 8 (.inr (11, [.ref 9, .ref 13, .ref 20, .ref 25, .ref 39, .ref 45, .ref 55, .ref 56, .int (nI (sgL (hoI H) (hoU H))), .int (hoE H), .ref 57, .ref 58, .ref 61]))) z (hot H (cutL g 0 (sgL (hoI H) (hoU H))) (hoE H)) ll fr kn := hR.t hf1 (by rw [cutL_len]; exact va_up_self _ _ _) ⟨g, hz_mne (va_up_self _ _ _) (by decide), isA_cut _ _ _⟩
      have h561 : (va_up (va_up M 56 (.inl (1, 4000, .inl g))) 8 (.inr (11, [.ref 9, .ref 13, .ref 20, .ref 25, .ref 39, .ref 45, .ref 55, .ref 56, .int (nI (sgL (hoI H) (hoU H))), .int (hoE H), .ref 57, .ref 58, .ref 61]))) 56 = .inl (1, 4000, .inl g) := hz_mne (va_up_self _ _ _) (by decide)
      have hH2 : (va_up (va_up M 56 (.inl (1, 4000, .inl g))) 8 (.inr (11, [.ref 9, .ref 13, .ref 20, .ref 25, .ref 39, .ref 45, .ref 55, .ref 56, .int (nI (sgL (hoI H) (hoU H))), .int (hoE H), .ref 57, .ref 58, .ref 61]))) 8 = hoO (sgL (hoI H) (hoU H)) (hoE H) := va_up_self _ _ _
      generalize (va_up (va_up M 56 (.inl (1, 4000, .inl g))) 8 (.inr (11, [.ref 9, .ref 13, .ref 20, .ref 25, .ref 39, .ref 45, .ref 55, .ref 56, .int (nI (sgL (hoI H) (hoU H))), .int (hoE H), .ref 57, .ref 58, .ref 61]))) = M1 at *
      have hJ1 := hR1.2.2.2.1
      have hck1 : ck_k M1 z := hJ1.2.2.2.2.2.2.2.1
      have hcs1 : ck_s M1 := hJ1.2.2.2.2.2.2.2.2.1
      have hg0 : g 0 = nI (hoI H).length := by rw [hg 0 (by omega) (decide_eq_false (by omega))]; exact bI_n d2
      refine hz_aloadn (pc := 42) 0 (hz_dec kX11_sign 20 rfl) rfl ?_
      refine hz_get (pc := 43) (hz_dec kX11_sign 21 rfl) fo_X11_30 hH2 (by omega) (by omega) rfl ?_
      refine hz_aloadn (pc := 46) 0 (hz_dec kX11_sign 22 rfl) rfl ?_
      refine hz_get (pc := 47) (hz_dec kX11_sign 23 rfl) fo_X11_72 hH2 (by omega) (by omega) rfl ?_
      refine hz_iconst (pc := 50) (v := nI 0) (hz_dec kX11_sign 24 rfl) (by decide) ?_
      refine hz_aloadn (pc := 51) 0 (hz_dec kX11_sign 25 rfl) rfl ?_
      refine hz_get (pc := 52) (hz_dec kX11_sign 26 rfl) fo_X11_124 hH2 (by omega) (by omega) rfl ?_
      refine hz_callV (pc := 55) (a := 13) (As := [.ref 56, .int (nI 0), .int (nI (sgL (hoI H) (hoU H)))]) (st := []) (hz_dec kX11_sign 27 rfl) co_X11_193 im_X4_readDigits se_X4_readDigits rfl hck1.2.1 (by omega) (by omega) (c_readD hck1 hcs1 (at_ := 0) (s := sgL (hoI H) (hoU H)) (n := (hoI H).length) h561 (by decide) (by omega) (by decide) (by omega) (by omega) (by omega) d2 hg0 (by omega) (by decide)) rfl (by decide) ⟨Nat.le_refl _, Nat.le_refl _⟩ (Nat.le_of_ble_eq_true rfl) rfl (fun r9 z9 M2 hp9 => ?_)
      obtain ⟨rfl, rfl, hf2, hs2, q2, h152, hq2⟩ := hp9
      rw [sgU_hash hg] at hq2
      have hJ2 : juS M2 z := hJ1.k hf2 rfl rfl rfl hs2
      have hR2 : hcR M2 z (hot H (cutL g 0 (sgL (hoI H) (hoU H))) (hoE H)) ll fr kn := hR1.j (hf2.S0 rfl) hJ2
      have h562 := (hf2.z 56 rfl).trans h561
      have hfz : frS [(8, 63 + 34 * (hoN H).length)] M M2 := (hf1.mono (fun q (h9 : outS [(8, 63 + 34 * (hoN H).length)] q) => ⟨by have r := h9.1; omega, by have r := h9.1; omega, trivial⟩)).tr ((hf2.S0 (lo := 9) (hi := 39) (S := []) rfl).mono (fun q (h9 : outS [(8, 63 + 34 * (hoN H).length)] q) => ⟨by have r := h9.1; omega, trivial⟩))
      refine hz_iconst (pc := 58) (v := nI 0) (hz_dec kX11_sign 28 rfl) (by decide) ?_
      refine hz_istoren (pc := 59) (i := 2) (lo2 := [(2, .int (nI 0)), (0, .ref 8), (1, .int h)]) (hz_dec kX11_sign 29 rfl) rfl (by decide) rfl ?_
      refine hz_pick (pc := 60) [0, 1] rfl ?_
      exact c_sign_l hz hnn (hoI H).length 0 g M2 ll fr kn rfl (by omega) hfz hR2 h562 (sgV_0 hg) ⟨q2, h152, hq2⟩
    · skip
      refine hz_iloadn (pc := 20) 1 (hz_dec kX11_sign 8 rfl) rfl ?_
      refine hz_if_ge (pc := 21) (tgt := 26) (hz_dec kX11_sign 9 rfl) (by decide) (fun h3 => ?_) (fun h3 => ?_)
      · skip
        refine hz_aloadn (pc := 26) 0 (hz_dec kX11_sign 12 rfl) rfl ?_
        refine hz_aloadn (pc := 27) 0 (hz_dec kX11_sign 13 rfl) rfl ?_
        refine hz_get (pc := 28) (hz_dec kX11_sign 14 rfl) fo_X11_53 hH (by omega) (by omega) rfl ?_
        refine hz_aloadn (pc := 31) 0 (hz_dec kX11_sign 15 rfl) rfl ?_
        refine hz_get (pc := 32) (hz_dec kX11_sign 16 rfl) fo_X11_72 hH (by omega) (by omega) rfl ?_
        refine hz_iloadn (pc := 35) 1 (hz_dec kX11_sign 17 rfl) rfl ?_
        refine hz_callV (pc := 36) (a := 39) (As := [.ref 56, .int h]) (st := [.ref 8]) (hz_dec kX11_sign 18 rfl) co_X11_189 im_X2_write se_X2_write rfl hdf.1 (by omega) (by omega) (c_wrt hz63 hdf (h := h) h56) rfl (by decide) ⟨Nat.le_refl _, Nat.le_refl _⟩ (Nat.le_of_ble_eq_true rfl) rfl (fun r9 z9 M2 hp9 => ?_)
        obtain ⟨rfl, rfl, g, hg, rfl⟩ := hp9
        have hH1 : (va_up M 56 (.inl (1, 4000, .inl g))) 8 = _ := hz_mne hH (by decide)
        refine hz_puti (pc := 39) (hz_dec kX11_sign 19 rfl) fo_X11_124 ft_X11_8 hH1 (by omega) (by omega) (Nat.le_of_ble_eq_true rfl) ?_
        refine hz_mem (pc := 42) (M2 := (va_up (va_up M 56 (.inl (1, 4000, .inl g))) 8 (.inr (11, [.ref 9, .ref 13, .ref 20, .ref 25, .ref 39, .ref 45, .ref 55, .ref 56, .int (nI (sgL (hoI H) (hoU H))), .int (hoE H), .ref 57, .ref 58, .ref 61])))) rfl ?_
        have hf1 : frS [(8, 9), (56, 57)] M (va_up (va_up M 56 (.inl (1, 4000, .inl g))) 8 (.inr (11, [.ref 9, .ref 13, .ref 20, .ref 25, .ref 39, .ref 45, .ref 55, .ref 56, .int (nI (sgL (hoI H) (hoU H))), .int (hoE H), .ref 57, .ref 58, .ref 61]))) := (frS.rf.upr (a := 56) (by simp only [outS, and_true]; omega)).upr (a := 8) (by simp only [outS, and_true]; omega)
        have hR1 : hcR (va_up (va_up M 56 (.inl (1, 4000, .inl g))) 8 (.inr (11, [.ref 9, .ref 13, .ref 20, .ref 25, .ref 39, .ref 45, .ref 55, .ref 56, .int (nI (sgL (hoI H) (hoU H))), .int (hoE H), .ref 57, .ref 58, .ref 61]))) z (hot H (cutL g 0 (sgL (hoI H) (hoU H))) (hoE H)) ll fr kn := hR.t hf1 (by rw [cutL_len]; exact va_up_self _ _ _) ⟨g, hz_mne (va_up_self _ _ _) (by decide), isA_cut _ _ _⟩
        have h561 : (va_up (va_up M 56 (.inl (1, 4000, .inl g))) 8 (.inr (11, [.ref 9, .ref 13, .ref 20, .ref 25, .ref 39, .ref 45, .ref 55, .ref 56, .int (nI (sgL (hoI H) (hoU H))), .int (hoE H), .ref 57, .ref 58, .ref 61]))) 56 = .inl (1, 4000, .inl g) := hz_mne (va_up_self _ _ _) (by decide)
        have hH2 : (va_up (va_up M 56 (.inl (1, 4000, .inl g))) 8 (.inr (11, [.ref 9, .ref 13, .ref 20, .ref 25, .ref 39, .ref 45, .ref 55, .ref 56, .int (nI (sgL (hoI H) (hoU H))), .int (hoE H), .ref 57, .ref 58, .ref 61]))) 8 = hoO (sgL (hoI H) (hoU H)) (hoE H) := va_up_self _ _ _
        generalize (va_up (va_up M 56 (.inl (1, 4000, .inl g))) 8 (.inr (11, [.ref 9, .ref 13, .ref 20, .ref 25, .ref 39, .ref 45, .ref 55, .ref 56, .int (nI (sgL (hoI H) (hoU H))), .int (hoE H), .ref 57, .ref 58, .ref 61]))) = M1 at *
        have hJ1 := hR1.2.2.2.1
        have hck1 : ck_k M1 z := hJ1.2.2.2.2.2.2.2.1
        have hcs1 : ck_s M1 := hJ1.2.2.2.2.2.2.2.2.1
        have hg0 : g 0 = nI (hoI H).length := by rw [hg 0 (by omega) (decide_eq_false (by omega))]; exact bI_n d2
        refine hz_aloadn (pc := 42) 0 (hz_dec kX11_sign 20 rfl) rfl ?_
        refine hz_get (pc := 43) (hz_dec kX11_sign 21 rfl) fo_X11_30 hH2 (by omega) (by omega) rfl ?_
        refine hz_aloadn (pc := 46) 0 (hz_dec kX11_sign 22 rfl) rfl ?_
        refine hz_get (pc := 47) (hz_dec kX11_sign 23 rfl) fo_X11_72 hH2 (by omega) (by omega) rfl ?_
        refine hz_iconst (pc := 50) (v := nI 0) (hz_dec kX11_sign 24 rfl) (by decide) ?_
        refine hz_aloadn (pc := 51) 0 (hz_dec kX11_sign 25 rfl) rfl ?_
        refine hz_get (pc := 52) (hz_dec kX11_sign 26 rfl) fo_X11_124 hH2 (by omega) (by omega) rfl ?_
        refine hz_callV (pc := 55) (a := 13) (As := [.ref 56, .int (nI 0), .int (nI (sgL (hoI H) (hoU H)))]) (st := []) (hz_dec kX11_sign 27 rfl) co_X11_193 im_X4_readDigits se_X4_readDigits rfl hck1.2.1 (by omega) (by omega) (c_readD hck1 hcs1 (at_ := 0) (s := sgL (hoI H) (hoU H)) (n := (hoI H).length) h561 (by decide) (by omega) (by decide) (by omega) (by omega) (by omega) d2 hg0 (by omega) (by decide)) rfl (by decide) ⟨Nat.le_refl _, Nat.le_refl _⟩ (Nat.le_of_ble_eq_true rfl) rfl (fun r9 z9 M2 hp9 => ?_)
        obtain ⟨rfl, rfl, hf2, hs2, q2, h152, hq2⟩ := hp9
        rw [sgU_hash hg] at hq2
        have hJ2 : juS M2 z := hJ1.k hf2 rfl rfl rfl hs2
        have hR2 : hcR M2 z (hot H (cutL g 0 (sgL (hoI H) (hoU H))) (hoE H)) ll fr kn := hR1.j (hf2.S0 rfl) hJ2
        have h562 := (hf2.z 56 rfl).trans h561
        have hfz : frS [(8, 63 + 34 * (hoN H).length)] M M2 := (hf1.mono (fun q (h9 : outS [(8, 63 + 34 * (hoN H).length)] q) => ⟨by have r := h9.1; omega, by have r := h9.1; omega, trivial⟩)).tr ((hf2.S0 (lo := 9) (hi := 39) (S := []) rfl).mono (fun q (h9 : outS [(8, 63 + 34 * (hoN H).length)] q) => ⟨by have r := h9.1; omega, trivial⟩))
        refine hz_iconst (pc := 58) (v := nI 0) (hz_dec kX11_sign 28 rfl) (by decide) ?_
        refine hz_istoren (pc := 59) (i := 2) (lo2 := [(2, .int (nI 0)), (0, .ref 8), (1, .int h)]) (hz_dec kX11_sign 29 rfl) rfl (by decide) rfl ?_
        refine hz_pick (pc := 60) [0, 1] rfl ?_
        exact c_sign_l hz hnn (hoI H).length 0 g M2 ll fr kn rfl (by omega) hfz hR2 h562 (sgV_0 hg) ⟨q2, h152, hq2⟩
      · skip
        exact absurd ⟨h2, Int32.not_le.mp h3⟩ hi
