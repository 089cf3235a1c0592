/-! the class's constructor -/
def mV (n : Int32) : Int32 := if n < 1 then 1 else if 6 < n then 6 else n
theorem mV_n (n : Int32) : ∃ k, 1 ≤ k ∧ k ≤ 6 ∧ mV n = nI k := by
  rcases i_s1 n (n := 6) (by decide) with (h | h) | ⟨k, h1, h2, e⟩
  · exact ⟨1, by decide, by decide, by unfold mV; exact if_pos h⟩
  · by_cases c : n < 1
    · exact ⟨1, by decide, by decide, by unfold mV; exact if_pos c⟩
    · refine ⟨6, by decide, by decide, ?_⟩
      unfold mV
      rw [if_neg c]
      exact if_pos (Int32.not_le.mp h)
  · refine ⟨k, h1, h2, ?_⟩
    subst e
    exact (show ∀ k, k ≤ 6 → 1 ≤ k → mV (nI k) = nI k by decide) k h2 h1
theorem mV_c (n : Int32) : (if nI 1 < (if n < nI 6 then n else nI 6) then (if n < nI 6 then n else nI 6) else nI 1) = mV n := by
  have q1 : ∀ x y : Int32, x < y ↔ x.toInt < y.toInt := fun x y => Int32.lt_iff_toInt_lt
  have a1 : (nI 1).toInt = 1 := by decide
  have a6 : (nI 6).toInt = 6 := by decide
  have b1 : (1 : Int32).toInt = 1 := by decide
  have b6 : (6 : Int32).toInt = 6 := by decide
  unfold mV
  by_cases c1 : n < nI 6
  · have d1 := (q1 _ _).mp c1
    rw [if_pos c1, if_neg (show ¬ (6 : Int32) < n from fun h => by have r := (q1 _ _).mp h; omega)]
    by_cases c2 : nI 1 < n
    · have d2 := (q1 _ _).mp c2
      rw [if_pos c2, if_neg (show ¬ n < 1 from fun h => by have r := (q1 _ _).mp h; omega)]
    · have d2 : ¬ (nI 1).toInt < n.toInt := fun h => c2 ((q1 _ _).mpr h)
      rw [if_neg c2]
      by_cases c3 : n < 1
      · rw [if_pos c3]; rfl
      · have d3 : ¬ n.toInt < (1 : Int32).toInt := fun h => c3 ((q1 _ _).mpr h)
        rw [if_neg c3]
        exact Int32.toInt_inj.mp (by omega)
  · have d1 : ¬ n.toInt < (nI 6).toInt := fun h => c1 ((q1 _ _).mpr h)
    rw [if_neg c1, if_pos (show nI 1 < nI 6 by decide), if_neg (show ¬ n < 1 from fun h => by have r := (q1 _ _).mp h; omega)]
    by_cases c4 : 6 < n
    · rw [if_pos c4]; rfl
    · have d4 : ¬ (6 : Int32).toInt < n.toInt := fun h => c4 ((q1 _ _).mpr h)
      rw [if_neg c4]
      exact Int32.toInt_inj.mp (by omega)
/-- a new node, a new house -/
def fiNd : nd_N := (([fiB fiF], 0, 0, none, fun _ => 0, [], [], ([], 0)), true, 0, 0)
def hoZ (n : Nat) : ho_H := (List.replicate n fiNd, ([], 0), 0, fun _ => 0, [], [], [], 200000)
theorem hoZ_l (n : Nat) : (hoN (hoZ n)).length = n := List.length_replicate
theorem hoZ_n {n v : Nat} (h : v < n) : ndL (hoN (hoZ n)) v = fiNd := by
  unfold ndL
  show (List.replicate n fiNd).getD v _ = _
  rw [List.getD_eq_getElem?_getD, List.getElem?_replicate, if_pos h]
  rfl
theorem juS.z {M : hz_M} {z z2 : Nat} (h : juS M z) (hz : 63 ≤ z2) : juS M z2 := by
  obtain ⟨a1, a2, a3, a4, a5, a6, a7, ⟨k1, k2, -⟩, a9, a10⟩ := h
  exact ⟨a1, a2, a3, a4, a5, a6, a7, ⟨k1, k2, hz⟩, a9, a10⟩
theorem rwR_0 {M : hz_M} {a nb mo : Nat} (h1 : M a = .inr (7, [.ref (a + 1), .ref (a + 2), .int (nI 0)])) (h2 : M (a + 1) = .inl (1, nb, .inl (fun _ => 0))) (h3 : M (a + 2) = .inl (0, mo + 1, .inl (fun _ => 0))) : rwR M a nb mo [] := ⟨h1, Nat.zero_le _, Nat.zero_le _, _, _, h2, h3, fun k hk => (by have e : k = 0 := Nat.le_zero.mp hk; rw [e]; rfl), fun k hk => absurd hk (Nat.not_lt_zero k)⟩
theorem coR_0 {M : hz_M} {a : Nat} (h0 : M a = .inr (1, [.ref (a + 1), .ref (a + 2), .ref (a + 3), .ref (a + 4), .ref (a + 5), .ref (a + 6), .int (nI 0), .ref (a + 7)])) (h1 : M (a + 1) = .inl (2, 400, .inr (.inl (fun _ => 0)))) (h2 : M (a + 2) = .inl (0, 400, .inl (fun _ => 0))) (h3 : M (a + 3) = .inl (2, 400, .inr (.inl (fun _ => 0)))) (h4 : M (a + 4) = .inl (2, 400, .inr (.inl (fun _ => 0)))) (h5 : M (a + 5) = .inl (0, 400, .inl (fun _ => 0))) (h6 : M (a + 6) = .inl (3, 400, .inl (fun _ => 0))) (h7 : M (a + 7) = .inl (0, 113, .inl (fun _ => 0))) : coR M a [] := ⟨h0, Nat.zero_le _, ⟨_, h7⟩, _, _, _, _, _, _, h1, h2, h3, h4, h5, h6, fun k hk => absurd hk (Nat.not_lt_zero k)⟩
def hcZ (M : hz_M) (nn : Nat) : Prop := M 8 = hoO 0 200000 ∧ M 55 = .inl (4, nn, .inr (.inr (.inr (.inr (fun _ => none))))) ∧ juS M 63 ∧ mlR M nn 0 ([], 0) (fun _ => 0) 0 0 0 ∧ M 53 = .inl (1, 4000, .inl (fun _ => 0)) ∧ rwR M 58 5728 16 [] ∧ M 61 = .inl (0, 113, .inl (fun _ => 0)) ∧ M 57 = .inl (1, 1280, .inl (fun _ => 0)) ∧ M 56 = .inl (1, 4000, .inl (fun _ => 0)) ∧ dfR M [] [] ∧ M 62 = .inl (1, 103, .inl (fun _ => 0))
/-- behind i nodes -/
def i11I (M0 M : hz_M) (nn i : Nat) : Prop := (∀ q, 39 ≤ q → q < 62 → ¬ q = 55 → M q = M0 q) ∧ M 8 = hoO 0 200000 ∧ juS M 63 ∧ (∃ g : Nat → Int32, M 62 = .inl (1, 103, .inl g) ∧ isA g 0 fiF) ∧ (∃ fh : Nat → Int32, M 37 = .inl (1, 32, .inl fh) ∧ isA fh 0 (haS fiF)) ∧ (∃ fi : Nat → Int64, M 38 = .inl (2, 8, .inr (.inl fi)) ∧ ∀ j, j < bkN fiF → fi j = idS (bkT fiF j)) ∧ (∃ f : Nat → Option Nat, M 55 = .inl (4, nn, .inr (.inr (.inr (.inr f)))) ∧ ∀ j, j < i → f j = some (63 + 34 * j)) ∧ ∀ v, v < i → ndR M (63 + 34 * v) v fiNd
set_option maxHeartbeats 4000000 in
set_option maxRecDepth 100000 in
theorem c_i11_l {κ : hz_C} {n : Int32} {nn : Nat} (hn6 : nn ≤ 6) {M0 : hz_M} (hZ0 : hcZ M0 nn) : ∀ k i (M : hz_M), k = nn - i → i ≤ nn → i11I M0 M nn i → hz_W κ xX11_init 6 258 440829 (fun r z2 M2 => none = r ∧ 63 + 34 * nn = z2 ∧ hcR M2 z2 (hoZ nn) 0 0 0) (54 + 34 * i) (62721 + 63018 * i) 167 [(4, .int (nI i)), (2, .int (nI nn)), (0, .ref 8), (3, .ref 62), (1, .int n)] [] (63 + 34 * i) M := by
  intro k
  induction k using Nat.strongRecOn with
  | ind k ih =>
  intro i M hk hi hI
  obtain ⟨eq0, h8, hJ, ⟨g62, h62, hA62⟩, ⟨fh, h37, hH37⟩, ⟨fi, h38, hfi⟩, ⟨f55, h55, hf55⟩, hnd⟩ := id hI
  have hFl : fiF.length = 103 := fiX_len _
  have hFi := fiX_i (lN fiN)
  have hjO := hJ
  obtain ⟨⟨bf, fe, hj⟩, -⟩ := id hJ
  refine hz_iload (pc := 167) 0 (hz_dec kX11_init 81 rfl) rfl ?_
  refine hz_iloadn (pc := 169) 1 (hz_dec kX11_init 82 rfl) rfl ?_
  refine hz_n_ge (pc := 170) (tgt := 240) (hz_dec kX11_init 83 rfl) (by decide) (by omega) (by omega) (fun h1 => ?_) (fun h1 => ?_)
  · skip
    have e : i = nn := by omega
    subst e
    obtain ⟨z1, z2, z3, z4, z5, z6, z7, z8, z9, z10, z11⟩ := hZ0
    refine hz_W.widen (cn2 := 258) (sn2 := 440829) (by omega) (by omega) ?_
    refine hz_vret (pc := 240) (hz_dec kX11_init 116 rfl) rfl ⟨rfl, rfl, ?_⟩
    refine ⟨h8, by rw [hoZ_l]; exact ⟨f55, h55, hf55⟩, fun v hv => ?_, hJ.z (by omega), by rw [hoZ_l]; exact z4.fr (fun q q1 q2 _ => eq0 q (by omega) (by omega) (by omega)), ⟨_, (eq0 53 (by decide) (by decide) (by decide)).trans z5⟩, ⟨[], z6.fr (fun q q1 q2 => eq0 q (by omega) (by omega) (by omega))⟩, ⟨_, (eq0 61 (by decide) (by decide) (by decide)).trans z7⟩, ⟨_, (eq0 57 (by decide) (by decide) (by decide)).trans z8⟩, ⟨_, (eq0 56 (by decide) (by decide) (by decide)).trans z9, fun j hj9 => absurd hj9 (Nat.not_lt_zero j)⟩, z10.fr (fun q q1 q2 => eq0 q (by omega) (by omega) (by omega))⟩
    rw [hoZ_l] at hv
    rw [hoZ_n hv]
    exact hnd v hv
  · skip
    have hlt : i < nn := by omega
    refine hz_aloadn (pc := 173) 2 (hz_dec kX11_init 84 rfl) rfl ?_
    refine hz_get (pc := 174) (hz_dec kX11_init 85 rfl) fo_X11_68 h8 (by decide) (by omega) rfl ?_
    refine hz_iload (pc := 177) 0 (hz_dec kX11_init 86 rfl) rfl ?_
    refine hz_nX6 (pc := 179) (hz_dec kX11_init 87 rfl) cl_X11_66 (by omega) (by omega) ?_
    refine hz_dup (pc := 182) (hz_dec kX11_init 88 rfl) rfl ?_
    refine hz_iload (pc := 183) 0 (hz_dec kX11_init 89 rfl) rfl ?_
    refine hz_aloadn (pc := 185) 2 (hz_dec kX11_init 90 rfl) rfl ?_
    refine hz_get (pc := 186) (hz_dec kX11_init 91 rfl) fo_X11_37 (hz_mne h8 (by omega)) (by decide) (by omega) rfl ?_
    refine hz_callI (pc := 189) (a := 63 + 34 * i) (As := [.int (nI i), .ref 20]) (st := [.ref (63 + 34 * i), .int (nI i), .ref 55]) (hz_dec kX11_init 92 rfl) co_X11_101 im_X6_init rfl rfl (c_nw6 (by omega) (va_up_self _ _ _)) rfl (by decide) ⟨by omega, by omega⟩ (Nat.le_of_ble_eq_true rfl) rfl (fun r9 z9 M1 hp9 => ?_)
    obtain ⟨rfl, rfl, fr1, g0, g1, g2, g3, g4, g5, g6, g7, g8, g9, g10, g11, g12, g13, g14, g15, g16, g17, g18, g19, g20, g21, g22, g23, g24, g25, g26, g27, g28, g29, g30, g31, g32, g33⟩ := hp9
    have eq1 : ∀ q, q < 63 + 34 * i → M1 q = M q := fun q hq => (fr1 q hq).trans (va_up_ne _ _ (by omega))
    have x8 := (eq1 8 (by omega)).trans h8
    have x55 := (eq1 55 (by omega)).trans h55
    have x25 := (eq1 25 (by omega)).trans hj
    refine hz_aast (pc := 192) (hz_dec kX11_init 93 rfl) x55 (by decide) (by omega) g0 (by omega) (by omega) hlt (by omega) ?_
    refine hz_aloadn (pc := 193) 2 (hz_dec kX11_init 94 rfl) rfl ?_
    refine hz_get (pc := 194) (hz_dec kX11_init 95 rfl) fo_X11_68 (hz_mne x8 (by omega)) (by decide) (by omega) rfl ?_
    refine hz_iload (pc := 197) 0 (hz_dec kX11_init 96 rfl) rfl ?_
    refine hz_aald (pc := 199) (j := i) (r := 63 + 34 * i) (hz_dec kX11_init 97 rfl) (va_up_self _ _ _) (by decide) (by omega) rfl (by omega) (by omega) (va_up_self _ _ _) ?_
    refine hz_get (pc := 200) (hz_dec kX11_init 98 rfl) fo_X11_104 (hz_mne g0 (by omega)) (by omega) (by omega) rfl ?_
    refine hz_aloadn (pc := 203) 3 (hz_dec kX11_init 99 rfl) rfl ?_
    refine hz_bipush (pc := 204) (v := nI 103) (hz_dec kX11_init 100 rfl) (by decide) ?_
    refine hz_aloadn (pc := 206) 2 (hz_dec kX11_init 101 rfl) rfl ?_
    refine hz_get (pc := 207) (hz_dec kX11_init 102 rfl) fo_X11_46 (hz_mne x8 (by omega)) (by decide) (by omega) rfl ?_
    refine hz_get (pc := 210) (hz_dec kX11_init 103 rfl) fo_X11_108 (hz_mne x25 (by omega)) (by decide) (by omega) rfl ?_
    refine hz_aloadn (pc := 213) 2 (hz_dec kX11_init 104 rfl) rfl ?_
    refine hz_get (pc := 214) (hz_dec kX11_init 105 rfl) fo_X11_46 (hz_mne x8 (by omega)) (by decide) (by omega) rfl ?_
    refine hz_get (pc := 217) (hz_dec kX11_init 106 rfl) fo_X11_111 (hz_mne x25 (by omega)) (by decide) (by omega) rfl ?_
    refine hz_iconst (pc := 220) (v := (-1)) (hz_dec kX11_init 107 rfl) (by decide) ?_
    have eq2 : ∀ q, ¬ q = 55 → (va_up M1 55 (.inl (4, nn, .inr (.inr (.inr (.inr (va_up f55 i (some (63 + 34 * i))))))))) q = M1 q := fun q hq => va_up_ne _ _ hq
    have hT2 : trZ (va_up M1 55 (.inl (4, nn, .inr (.inr (.inr (.inr (va_up f55 i (some (63 + 34 * i))))))))) (63 + 34 * i + 21) := ⟨(eq2 _ (by omega)).trans g21, rwR_0 ((eq2 _ (by omega)).trans g22) ((eq2 _ (by omega)).trans g23) ((eq2 _ (by omega)).trans g24), (eq2 _ (by omega)).trans g25, (eq2 _ (by omega)).trans g26, (eq2 _ (by omega)).trans g27, (eq2 _ (by omega)).trans g28, (eq2 _ (by omega)).trans g29, (eq2 _ (by omega)).trans g30, (eq2 _ (by omega)).trans g31, (eq2 _ (by omega)).trans g32, (eq2 _ (by omega)).trans g33⟩
    have hJ2 : juS (va_up M1 55 (.inl (4, nn, .inr (.inr (.inr (.inr (va_up f55 i (some (63 + 34 * i))))))))) 63 := hJ.al (fun q q1 q2 => (eq2 q (by omega)).trans (eq1 q (by omega)))
    have y62 := (eq2 62 (by decide)).trans ((eq1 62 (by omega)).trans h62)
    have y37 := (eq2 37 (by decide)).trans ((eq1 37 (by omega)).trans h37)
    have y38 := (eq2 38 (by decide)).trans ((eq1 38 (by omega)).trans h38)
    have g0b := (eq2 (63 + 34 * i) (by omega)).trans g0
    have gT := hT2.1
    have cR := c_trAdd0 (κ := κ) (z := 63 + 34 * i + 34) (t := 63 + 34 * i + 21) (l := fiF) hT2 (by omega) (by omega) hJ2.2.2.2.2.2.2.2.2.2 y62 (by decide) (by omega) (by omega) (by decide) hA62 (by omega) (fiX_W _) (by show tgR (bn_int (lf (fiX (lN fiN))) 68) = true; rw [hFi.2]; exact fi_wk.1) y37 hH37 y38 hfi (by show 0 + wkN (bn_int (lf (fiX (lN fiN))) 68) < _; rw [hFi.2]; exact fi_wk.2.2.1)
    rw [hFl] at cR
    refine hz_callV (pc := 221) (a := 63 + 34 * i + 21) (As := [.ref 62, .int (nI 103), .ref 37, .ref 38, .int (-1)]) (st := []) (hz_dec kX11_init 108 rfl) co_X11_115 im_X10_add se_X10_add rfl gT (by omega) (by omega) (cR) rfl (by decide) ⟨by omega, by omega⟩ (Nat.le_of_ble_eq_true rfl) rfl (fun r9 z9 M3 hp9 => ?_)
    obtain ⟨rfl, rfl, hf3, hw3, hT3⟩ := hp9
    have eq3 : ∀ q, q < 20 ∨ 25 ≤ q ∧ q < 63 + 34 * i + 21 ∨ 63 + 34 * i + 34 ≤ q → M3 q = (va_up M1 55 (.inl (4, nn, .inr (.inr (.inr (.inr (va_up f55 i (some (63 + 34 * i))))))))) q := fun q hq => hf3.at2 (by omega)
    have hJ3 : juS M3 63 := hJ2.w (fun q q1 q2 q3 => eq3 q (by omega)) hw3
    have k0 := (eq3 (63 + 34 * i + 0) (by omega)).trans ((eq2 _ (by omega)).trans g0)
    have k1 := (eq3 (63 + 34 * i + 1) (by omega)).trans ((eq2 _ (by omega)).trans g1)
    have e23 : ∀ q, 63 + 34 * i ≤ q → q < 63 + 34 * i + 21 → M3 q = M1 q := fun q q1 q2 => (eq3 q (by omega)).trans (eq2 q (by omega))
    have hc3 : coR M3 (63 + 34 * i + 2) [] := (coR_0 g2 g3 g4 g5 g6 g7 g8 g9).fr (fun q q1 q2 => e23 q (by omega) (by omega))
    have hp3 : plR M3 (63 + 34 * i) [] := ⟨(rwR_0 g10 g11 g12).fr (fun q q1 q2 => e23 q (by omega) (by omega)), _, (e23 _ (by omega) (by omega)).trans g13, fun k hk => absurd hk (Nat.not_lt_zero k)⟩
    have hl3 : loR M3 (63 + 34 * i) [] := ⟨(rwR_0 g15 g16 g17).fr (fun q q1 q2 => e23 q (by omega) (by omega)), (rwR_0 g18 g19 g20).fr (fun q q1 q2 => e23 q (by omega) (by omega)), _, (e23 _ (by omega) (by omega)).trans g14⟩
    have x83 := (eq3 8 (by omega)).trans ((eq2 8 (by decide)).trans x8)
    have x553 := (eq3 55 (by omega)).trans (va_up_self M1 55 _)
    refine hz_aloadn (pc := 224) 2 (hz_dec kX11_init 109 rfl) rfl ?_
    refine hz_get (pc := 225) (hz_dec kX11_init 110 rfl) fo_X11_68 x83 (by decide) (by omega) rfl ?_
    refine hz_iload (pc := 228) 0 (hz_dec kX11_init 111 rfl) rfl ?_
    refine hz_aald (pc := 230) (j := i) (r := 63 + 34 * i) (hz_dec kX11_init 112 rfl) x553 (by decide) (by omega) rfl (by omega) (by omega) (va_up_self _ _ _) ?_
    refine hz_callV (pc := 231) (a := 63 + 34 * i) (As := []) (st := []) (hz_dec kX11_init 113 rfl) co_X11_121 im_X6_forget se_X6_forget rfl k0 (by omega) (by omega) (c_fgt (nb := 63 + 34 * i) (v := i) (N := fiNd) (S := fiNd.1) (by omega) (by omega) k0 hT3 hc3 hp3 hl3 (fi_I _) (by decide)) rfl (by decide) ⟨by omega, by omega⟩ (Nat.le_of_ble_eq_true rfl) rfl (fun r9 z9 M4 hp9 => ?_)
    obtain ⟨rfl, rfl, hf4, o1, o2, o3, o4, o5, o6⟩ := hp9
    have eq4 : ∀ q, q < 63 + 34 * i → M4 q = M3 q := fun q hq => hf4.at1 (by omega)
    have all4 : ∀ q, q < 20 ∨ 25 ≤ q → q < 63 + 34 * i → ¬ q = 55 → M4 q = M q := fun q q1 q2 q3 => (eq4 q q2).trans ((eq3 q (by omega)).trans ((eq2 q q3).trans (eq1 q q2)))
    refine hz_incN (pc := 234) (i := 4) (lo2 := [(4, .int (nI (i + 1))), (2, .int (nI nn)), (0, .ref 8), (3, .ref 62), (1, .int n)]) 0 (hz_dec kX11_init 114 rfl) rfl (by decide) rfl ?_
    refine hz_goto (pc := 237) (tgt := 167) (hz_dec kX11_init 115 rfl) (by decide) ?_
    refine hz_pick (pc := 167) [0, 1, 2, 3, 4] rfl ?_
    refine hz_W.widen (cn2 := 54 + 34 * (i + 1)) (sn2 := 62721 + 63018 * (i + 1)) (by omega) (by omega) ?_
    refine ih (nn - (i + 1)) (by omega) (i + 1) M4 rfl (by omega) ⟨fun q q1 q2 q3 => (all4 q (by omega) (by omega) q3).trans (eq0 q q1 q2 q3), (all4 8 (by decide) (by omega) (by decide)).trans h8, hJ3.al (fun q q1 q2 => eq4 q (by omega)), ⟨g62, (all4 62 (by decide) (by omega) (by decide)).trans h62, hA62⟩, ⟨fh, (all4 37 (by decide) (by omega) (by decide)).trans h37, hH37⟩, ⟨fi, (all4 38 (by decide) (by omega) (by decide)).trans h38, hfi⟩, ⟨_, (eq4 55 (by omega)).trans x553, fun j hj9 => ?_⟩, fun v hv => ?_⟩
    · rcases (show j < i ∨ j = i by omega) with c | c
      · rw [va_up_ne f55 _ (show j ≠ i by omega)]; exact hf55 j c
      · rw [c]; exact va_up_self _ _ _
    · rcases (show v < i ∨ v = i by omega) with c | c
      · exact (hnd v c).fr (fun q q1 q2 => all4 q (by omega) (by omega) (by omega))
      · subst c
        exact ⟨o1, ⟨_, o2.trans k1, fun j _ => rfl⟩, o3, o4, o5, o6⟩
set_option maxHeartbeats 4000000 in
set_option maxRecDepth 100000 in
theorem c_i11_b {κ : hz_C} {n : Int32} {nn : Nat} (hn6 : nn ≤ 6) {M : hz_M} (hZ : hcZ M nn) : hz_W κ xX11_init 6 258 440829 (fun r z2 M2 => none = r ∧ 63 + 34 * nn = z2 ∧ hcR M2 z2 (hoZ nn) 0 0 0) 54 62721 159 [(3, .ref 62), (2, .int (nI nn)), (0, .ref 8), (1, .int n)] [] 63 M := by
  obtain ⟨z1, z2, z3, z4, z5, z6, z7, z8, z9, z10, z11⟩ := id hZ
  refine hz_aloadn (pc := 159) 2 (hz_dec kX11_init 76 rfl) rfl ?_
  refine hz_aloadn (pc := 160) 0 (hz_dec kX11_init 77 rfl) rfl ?_
  refine hz_callV (pc := 161) (a := 8) (As := [.ref 62]) (st := []) (hz_dec kX11_init 78 rfl) co_X11_97 im_X11_makeFirst se_X11_makeFirst rfl z1 (by decide) (by decide) (c_mkF z1 z3 z11) rfl (by decide) ⟨by omega, by omega⟩ (Nat.le_of_ble_eq_true rfl) rfl (fun r9 z9 M1 hp9 => ?_)
  obtain ⟨rfl, rfl, eq1, hJ1, hB1, hH1, hi1⟩ := hp9
  refine hz_iconst (pc := 164) (v := nI 0) (hz_dec kX11_init 79 rfl) (by decide) ?_
  refine hz_istore (pc := 165) (i := 4) (lo2 := [(4, .int (nI 0)), (3, .ref 62), (2, .int (nI nn)), (0, .ref 8), (1, .int n)]) (hz_dec kX11_init 80 rfl) (by decide) rfl ?_
  refine hz_pick (pc := 167) [0, 2, 3, 1, 4] rfl ?_
  exact c_i11_l hn6 hZ nn 0 M1 rfl (Nat.zero_le _) ⟨fun q q1 q2 q3 => eq1 q (by omega), (eq1 8 (by decide)).trans z1, hJ1, hB1, hH1, hi1, ⟨_, (eq1 55 (by decide)).trans z2, fun j hj9 => absurd hj9 (Nat.not_lt_zero j)⟩, fun v hv => absurd hv (Nat.not_lt_zero v)⟩
set_option maxHeartbeats 4000000 in
set_option maxRecDepth 100000 in
theorem c_i11 {κ : hz_C} {M : hz_M} {n : Int32} {nn : Nat} (hn1 : 1 ≤ nn) (hn6 : nn ≤ 6) (hnn : mV n = nI nn) (h0 : M 8 = .inr (11, [.null, .null, .null, .null, .null, .null, .null, .null, .int (nI 0), .int (nI 0), .null, .null, .null])) : hz_Mt κ xX11_init 6 258 440829 [.ref 8, .int n] 9 M (fun r z2 M2 => none = r ∧ 63 + 34 * nn = z2 ∧ hcR M2 z2 (hoZ nn) 0 0 0) := by
  refine hz_ent (lo := [(0, .ref 8), (1, .int n)]) (by decide) (Nat.le_of_ble_eq_true rfl) rfl ?_
  refine hz_aloadn (pc := 0) 0 (hz_dec kX11_init 0 rfl) rfl ?_
  refine hz_obj (pc := 1) (hz_dec kX11_init 1 rfl) ob_X11_3 (by decide) (Nat.le_of_ble_eq_true rfl) ?_
  refine hz_iconst (pc := 4) (v := nI 1) (hz_dec kX11_init 2 rfl) (by decide) ?_
  refine hz_bipush (pc := 5) (v := nI 6) (hz_dec kX11_init 3 rfl) (by decide) ?_
  refine hz_iloadn (pc := 7) 1 (hz_dec kX11_init 4 rfl) rfl ?_
  refine hz_xS (pc := 8) (As := [.int (nI 6), .int n]) (st := [.int (nI 1)]) (hz_dec kX11_init 5 rfl) co_X11_9 sc_J9_min_7cf53 (c_minI) rfl (by decide) ⟨by omega, by omega⟩ (Nat.le_of_ble_eq_true rfl) rfl ?_
  refine hz_xS (pc := 11) (As := [.int (nI 1), .int (if n < nI 6 then n else nI 6)]) (st := []) (hz_dec kX11_init 6 rfl) co_X11_15 sc_J9_max_7cf53 (c_maxI) rfl (by decide) ⟨by omega, by omega⟩ (Nat.le_of_ble_eq_true rfl) rfl ?_
  refine hz_eqi (pc := 14) ((mV_c n).trans hnn) ?_
  refine hz_istoren (pc := 14) (i := 2) (lo2 := [(2, .int (nI nn)), (0, .ref 8), (1, .int n)]) (hz_dec kX11_init 7 rfl) rfl (by decide) rfl ?_
  refine hz_aloadn (pc := 15) 1 (hz_dec kX11_init 8 rfl) rfl ?_
  refine hz_nX8 (pc := 16) (hz_dec kX11_init 9 rfl) cl_X11_18 (by omega) (by omega) ?_
  refine hz_dup (pc := 19) (hz_dec kX11_init 10 rfl) rfl ?_
  refine hz_callIN (pc := 20) (a := 9) (As := []) (st := [.ref 9, .ref 8]) (hz_dec kX11_init 11 rfl) co_X11_20 im_X8_init rfl rfl (c_nw8 (by decide) (va_up_self _ _ _)) rfl (by decide) ⟨by omega, by omega⟩ (Nat.le_of_ble_eq_true rfl) rfl (fun r9 z9 M1 hp9 => ?_)
  obtain ⟨rfl, rfl, fr1, g1_0, g1_1, g1_2, g1_3⟩ := hp9
  have c1 : M1 (8) = .inr (11, [.null, .null, .null, .null, .null, .null, .null, .null, .int (nI 0), .int (nI 0), .null, .null, .null]) := (fr1 _ (by omega)).trans (hz_mne h0 (by decide))
  refine hz_putF (pc := 23) (hz_dec kX11_init 12 rfl) fo_X11_21 ft_X11_0 rfl rfl c1 (by decide) (by decide) rfl rfl (Nat.le_of_ble_eq_true rfl) ?_
  refine hz_mem (pc := 26) (M2 := (va_up M1 8 (.inr (11, [.ref 9, .null, .null, .null, .null, .null, .null, .null, .int (nI 0), .int (nI 0), .null, .null, .null])))) rfl ?_
  refine hz_aloadn (pc := 26) 1 (hz_dec kX11_init 13 rfl) rfl ?_
  refine hz_nX4 (pc := 27) (hz_dec kX11_init 14 rfl) cl_X11_25 (by omega) (by omega) ?_
  refine hz_dup (pc := 30) (hz_dec kX11_init 15 rfl) rfl ?_
  refine hz_aloadn (pc := 31) 1 (hz_dec kX11_init 16 rfl) rfl ?_
  refine hz_get (pc := 32) (hz_dec kX11_init 17 rfl) fo_X11_21 (hz_mne (va_up_self _ _ _) (by decide)) (by decide) (by decide) rfl ?_
  refine hz_callI (pc := 35) (a := 13) (As := [.ref 9]) (st := [.ref 13, .ref 8]) (hz_dec kX11_init 18 rfl) co_X11_27 im_X4_init rfl rfl (c_nw4 (by decide) (va_up_self _ _ _)) rfl (by decide) ⟨by omega, by omega⟩ (Nat.le_of_ble_eq_true rfl) rfl (fun r9 z9 M2 hp9 => ?_)
  obtain ⟨rfl, rfl, fr2, g2_0, g2_1, g2_2, g2_3, g2_4, g2_5, g2_6⟩ := hp9
  have c2 : M2 (8) = .inr (11, [.ref 9, .null, .null, .null, .null, .null, .null, .null, .int (nI 0), .int (nI 0), .null, .null, .null]) := (fr2 _ (by omega)).trans (hz_mne (va_up_self _ _ _) (by decide))
  have c3 : M2 (9) = .inr (8, [.ref 10, .ref 11, .ref 12]) := (fr2 _ (by omega)).trans (hz_mne (hz_mne g1_0 (by decide)) (by decide))
  have c4 : M2 (10) = .inl (0, 8, .inl (fun _ => 0)) := (fr2 _ (by omega)).trans (hz_mne (hz_mne g1_1 (by decide)) (by decide))
  have c5 : M2 (11) = .inl (0, 64, .inl (fun _ => 0)) := (fr2 _ (by omega)).trans (hz_mne (hz_mne g1_2 (by decide)) (by decide))
  have c6 : M2 (12) = .inl (1, 32, .inl (fun _ => 0)) := (fr2 _ (by omega)).trans (hz_mne (hz_mne g1_3 (by decide)) (by decide))
  refine hz_putF (pc := 38) (hz_dec kX11_init 19 rfl) fo_X11_30 ft_X11_1 rfl rfl c2 (by decide) (by decide) rfl rfl (Nat.le_of_ble_eq_true rfl) ?_
  refine hz_mem (pc := 41) (M2 := (va_up M2 8 (.inr (11, [.ref 9, .ref 13, .null, .null, .null, .null, .null, .null, .int (nI 0), .int (nI 0), .null, .null, .null])))) rfl ?_
  refine hz_aloadn (pc := 41) 1 (hz_dec kX11_init 20 rfl) rfl ?_
  refine hz_nX9 (pc := 42) (hz_dec kX11_init 21 rfl) cl_X11_34 (by omega) (by omega) ?_
  refine hz_dup (pc := 45) (hz_dec kX11_init 22 rfl) rfl ?_
  refine hz_callIN (pc := 46) (a := 20) (As := []) (st := [.ref 20, .ref 8]) (hz_dec kX11_init 23 rfl) co_X11_36 im_X9_init rfl rfl (c_nw9 (by decide) (va_up_self _ _ _)) rfl (by decide) ⟨by omega, by omega⟩ (Nat.le_of_ble_eq_true rfl) rfl (fun r9 z9 M3 hp9 => ?_)
  obtain ⟨rfl, rfl, fr3, g3_0, g3_1, g3_2, g3_3, g3_4⟩ := hp9
  have c7 : M3 (8) = .inr (11, [.ref 9, .ref 13, .null, .null, .null, .null, .null, .null, .int (nI 0), .int (nI 0), .null, .null, .null]) := (fr3 _ (by omega)).trans (hz_mne (va_up_self _ _ _) (by decide))
  have c8 : M3 (9) = .inr (8, [.ref 10, .ref 11, .ref 12]) := (fr3 _ (by omega)).trans (hz_mne (hz_mne c3 (by decide)) (by decide))
  have c9 : M3 (10) = .inl (0, 8, .inl (fun _ => 0)) := (fr3 _ (by omega)).trans (hz_mne (hz_mne c4 (by decide)) (by decide))
  have c10 : M3 (11) = .inl (0, 64, .inl (fun _ => 0)) := (fr3 _ (by omega)).trans (hz_mne (hz_mne c5 (by decide)) (by decide))
  have c11 : M3 (12) = .inl (1, 32, .inl (fun _ => 0)) := (fr3 _ (by omega)).trans (hz_mne (hz_mne c6 (by decide)) (by decide))
  have c12 : M3 (13) = .inr (4, [.ref 9, .ref 14, .ref 15, .ref 16, .ref 17, .ref 18, .ref 19]) := (fr3 _ (by omega)).trans (hz_mne (hz_mne g2_0 (by decide)) (by decide))
  have c13 : M3 (14) = .inl (2, 8, .inr (.inl (fun _ => 0))) := (fr3 _ (by omega)).trans (hz_mne (hz_mne g2_1 (by decide)) (by decide))
  have c14 : M3 (15) = .inl (0, 8, .inl (fun _ => 0)) := (fr3 _ (by omega)).trans (hz_mne (hz_mne g2_2 (by decide)) (by decide))
  have c15 : M3 (16) = .inl (0, 8, .inl (fun _ => 0)) := (fr3 _ (by omega)).trans (hz_mne (hz_mne g2_3 (by decide)) (by decide))
  have c16 : M3 (17) = .inl (1, 10, .inl (fun _ => 0)) := (fr3 _ (by omega)).trans (hz_mne (hz_mne g2_4 (by decide)) (by decide))
  have c17 : M3 (18) = .inl (1, 64, .inl (fun _ => 0)) := (fr3 _ (by omega)).trans (hz_mne (hz_mne g2_5 (by decide)) (by decide))
  have c18 : M3 (19) = .inl (1, 358, .inl (fun _ => 0)) := (fr3 _ (by omega)).trans (hz_mne (hz_mne g2_6 (by decide)) (by decide))
  refine hz_putF (pc := 49) (hz_dec kX11_init 24 rfl) fo_X11_37 ft_X11_2 rfl rfl c7 (by decide) (by decide) rfl rfl (Nat.le_of_ble_eq_true rfl) ?_
  refine hz_mem (pc := 52) (M2 := (va_up M3 8 (.inr (11, [.ref 9, .ref 13, .ref 20, .null, .null, .null, .null, .null, .int (nI 0), .int (nI 0), .null, .null, .null])))) rfl ?_
  refine hz_aloadn (pc := 52) 1 (hz_dec kX11_init 25 rfl) rfl ?_
  refine hz_nX3 (pc := 53) (hz_dec kX11_init 26 rfl) cl_X11_41 (by omega) (by omega) ?_
  refine hz_dup (pc := 56) (hz_dec kX11_init 27 rfl) rfl ?_
  refine hz_aloadn (pc := 57) 1 (hz_dec kX11_init 28 rfl) rfl ?_
  refine hz_get (pc := 58) (hz_dec kX11_init 29 rfl) fo_X11_21 (hz_mne (va_up_self _ _ _) (by decide)) (by decide) (by decide) rfl ?_
  refine hz_aloadn (pc := 61) 1 (hz_dec kX11_init 30 rfl) rfl ?_
  refine hz_get (pc := 62) (hz_dec kX11_init 31 rfl) fo_X11_30 (hz_mne (va_up_self _ _ _) (by decide)) (by decide) (by decide) rfl ?_
  refine hz_aloadn (pc := 65) 1 (hz_dec kX11_init 32 rfl) rfl ?_
  refine hz_get (pc := 66) (hz_dec kX11_init 33 rfl) fo_X11_37 (hz_mne (va_up_self _ _ _) (by decide)) (by decide) (by decide) rfl ?_
  refine hz_callI (pc := 69) (a := 25) (As := [.ref 9, .ref 13, .ref 20]) (st := [.ref 25, .ref 8]) (hz_dec kX11_init 34 rfl) co_X11_43 im_X3_init rfl rfl (c_nw3 (by decide) (va_up_self _ _ _)) rfl (by decide) ⟨by omega, by omega⟩ (Nat.le_of_ble_eq_true rfl) rfl (fun r9 z9 M4 hp9 => ?_)
  obtain ⟨rfl, rfl, fr4, g4_0, g4_1, g4_2, g4_3, g4_4, g4_5, g4_6, g4_7, g4_8, g4_9, g4_10, g4_11, g4_12, g4_13⟩ := hp9
  have c19 : M4 (8) = .inr (11, [.ref 9, .ref 13, .ref 20, .null, .null, .null, .null, .null, .int (nI 0), .int (nI 0), .null, .null, .null]) := (fr4 _ (by omega)).trans (hz_mne (va_up_self _ _ _) (by decide))
  have c20 : M4 (9) = .inr (8, [.ref 10, .ref 11, .ref 12]) := (fr4 _ (by omega)).trans (hz_mne (hz_mne c8 (by decide)) (by decide))
  have c21 : M4 (10) = .inl (0, 8, .inl (fun _ => 0)) := (fr4 _ (by omega)).trans (hz_mne (hz_mne c9 (by decide)) (by decide))
  have c22 : M4 (11) = .inl (0, 64, .inl (fun _ => 0)) := (fr4 _ (by omega)).trans (hz_mne (hz_mne c10 (by decide)) (by decide))
  have c23 : M4 (12) = .inl (1, 32, .inl (fun _ => 0)) := (fr4 _ (by omega)).trans (hz_mne (hz_mne c11 (by decide)) (by decide))
  have c24 : M4 (13) = .inr (4, [.ref 9, .ref 14, .ref 15, .ref 16, .ref 17, .ref 18, .ref 19]) := (fr4 _ (by omega)).trans (hz_mne (hz_mne c12 (by decide)) (by decide))
  have c25 : M4 (14) = .inl (2, 8, .inr (.inl (fun _ => 0))) := (fr4 _ (by omega)).trans (hz_mne (hz_mne c13 (by decide)) (by decide))
  have c26 : M4 (15) = .inl (0, 8, .inl (fun _ => 0)) := (fr4 _ (by omega)).trans (hz_mne (hz_mne c14 (by decide)) (by decide))
  have c27 : M4 (16) = .inl (0, 8, .inl (fun _ => 0)) := (fr4 _ (by omega)).trans (hz_mne (hz_mne c15 (by decide)) (by decide))
  have c28 : M4 (17) = .inl (1, 10, .inl (fun _ => 0)) := (fr4 _ (by omega)).trans (hz_mne (hz_mne c16 (by decide)) (by decide))
  have c29 : M4 (18) = .inl (1, 64, .inl (fun _ => 0)) := (fr4 _ (by omega)).trans (hz_mne (hz_mne c17 (by decide)) (by decide))
  have c30 : M4 (19) = .inl (1, 358, .inl (fun _ => 0)) := (fr4 _ (by omega)).trans (hz_mne (hz_mne c18 (by decide)) (by decide))
  have c31 : M4 (20) = .inr (9, [.ref 21, .ref 22, .ref 23, .ref 24, .int (nI 0)]) := (fr4 _ (by omega)).trans (hz_mne (hz_mne g3_0 (by decide)) (by decide))
  have c32 : M4 (21) = .inl (0, 8, .inl (fun _ => 0)) := (fr4 _ (by omega)).trans (hz_mne (hz_mne g3_1 (by decide)) (by decide))
  have c33 : M4 (22) = .inl (0, 8, .inl (fun _ => 0)) := (fr4 _ (by omega)).trans (hz_mne (hz_mne g3_2 (by decide)) (by decide))
  have c34 : M4 (23) = .inl (0, 8, .inl (fun _ => 0)) := (fr4 _ (by omega)).trans (hz_mne (hz_mne g3_3 (by decide)) (by decide))
  have c35 : M4 (24) = .inl (0, 8, .inl (fun _ => 0)) := (fr4 _ (by omega)).trans (hz_mne (hz_mne g3_4 (by decide)) (by decide))
  refine hz_putF (pc := 72) (hz_dec kX11_init 35 rfl) fo_X11_46 ft_X11_3 rfl rfl c19 (by decide) (by decide) rfl rfl (Nat.le_of_ble_eq_true rfl) ?_
  refine hz_mem (pc := 75) (M2 := (va_up M4 8 (.inr (11, [.ref 9, .ref 13, .ref 20, .ref 25, .null, .null, .null, .null, .int (nI 0), .int (nI 0), .null, .null, .null])))) rfl ?_
  refine hz_aloadn (pc := 75) 1 (hz_dec kX11_init 36 rfl) rfl ?_
  refine hz_nX2 (pc := 76) (hz_dec kX11_init 37 rfl) cl_X11_50 (by omega) (by omega) ?_
  refine hz_dup (pc := 79) (hz_dec kX11_init 38 rfl) rfl ?_
  refine hz_callIN (pc := 80) (a := 39) (As := []) (st := [.ref 39, .ref 8]) (hz_dec kX11_init 39 rfl) co_X11_52 im_X2_init rfl rfl (c_nw2 (by decide) (va_up_self _ _ _)) rfl (by decide) ⟨by omega, by omega⟩ (Nat.le_of_ble_eq_true rfl) rfl (fun r9 z9 M5 hp9 => ?_)
  obtain ⟨rfl, rfl, fr5, g5_0, g5_1, g5_2, g5_3, g5_4, g5_5⟩ := hp9
  have c36 : M5 (8) = .inr (11, [.ref 9, .ref 13, .ref 20, .ref 25, .null, .null, .null, .null, .int (nI 0), .int (nI 0), .null, .null, .null]) := (fr5 _ (by omega)).trans (hz_mne (va_up_self _ _ _) (by decide))
  have c37 : M5 (9) = .inr (8, [.ref 10, .ref 11, .ref 12]) := (fr5 _ (by omega)).trans (hz_mne (hz_mne c20 (by decide)) (by decide))
  have c38 : M5 (10) = .inl (0, 8, .inl (fun _ => 0)) := (fr5 _ (by omega)).trans (hz_mne (hz_mne c21 (by decide)) (by decide))
  have c39 : M5 (11) = .inl (0, 64, .inl (fun _ => 0)) := (fr5 _ (by omega)).trans (hz_mne (hz_mne c22 (by decide)) (by decide))
  have c40 : M5 (12) = .inl (1, 32, .inl (fun _ => 0)) := (fr5 _ (by omega)).trans (hz_mne (hz_mne c23 (by decide)) (by decide))
  have c41 : M5 (13) = .inr (4, [.ref 9, .ref 14, .ref 15, .ref 16, .ref 17, .ref 18, .ref 19]) := (fr5 _ (by omega)).trans (hz_mne (hz_mne c24 (by decide)) (by decide))
  have c42 : M5 (14) = .inl (2, 8, .inr (.inl (fun _ => 0))) := (fr5 _ (by omega)).trans (hz_mne (hz_mne c25 (by decide)) (by decide))
  have c43 : M5 (15) = .inl (0, 8, .inl (fun _ => 0)) := (fr5 _ (by omega)).trans (hz_mne (hz_mne c26 (by decide)) (by decide))
  have c44 : M5 (16) = .inl (0, 8, .inl (fun _ => 0)) := (fr5 _ (by omega)).trans (hz_mne (hz_mne c27 (by decide)) (by decide))
  have c45 : M5 (17) = .inl (1, 10, .inl (fun _ => 0)) := (fr5 _ (by omega)).trans (hz_mne (hz_mne c28 (by decide)) (by decide))
  have c46 : M5 (18) = .inl (1, 64, .inl (fun _ => 0)) := (fr5 _ (by omega)).trans (hz_mne (hz_mne c29 (by decide)) (by decide))
  have c47 : M5 (19) = .inl (1, 358, .inl (fun _ => 0)) := (fr5 _ (by omega)).trans (hz_mne (hz_mne c30 (by decide)) (by decide))
  have c48 : M5 (20) = .inr (9, [.ref 21, .ref 22, .ref 23, .ref 24, .int (nI 0)]) := (fr5 _ (by omega)).trans (hz_mne (hz_mne c31 (by decide)) (by decide))
  have c49 : M5 (21) = .inl (0, 8, .inl (fun _ => 0)) := (fr5 _ (by omega)).trans (hz_mne (hz_mne c32 (by decide)) (by decide))
  have c50 : M5 (22) = .inl (0, 8, .inl (fun _ => 0)) := (fr5 _ (by omega)).trans (hz_mne (hz_mne c33 (by decide)) (by decide))
  have c51 : M5 (23) = .inl (0, 8, .inl (fun _ => 0)) := (fr5 _ (by omega)).trans (hz_mne (hz_mne c34 (by decide)) (by decide))
  have c52 : M5 (24) = .inl (0, 8, .inl (fun _ => 0)) := (fr5 _ (by omega)).trans (hz_mne (hz_mne c35 (by decide)) (by decide))
  have c53 : M5 (25) = .inr (3, [.ref 9, .ref 13, .ref 20, .ref 26, .ref 34, .ref 35, .ref 36, .ref 37, .ref 38, .int (nI 0), .long 0]) := (fr5 _ (by omega)).trans (hz_mne (hz_mne g4_0 (by decide)) (by decide))
  have c54 : M5 (26) = .inr (1, [.ref 27, .ref 28, .ref 29, .ref 30, .ref 31, .ref 32, .int (nI 0), .ref 33]) := (fr5 _ (by omega)).trans (hz_mne (hz_mne g4_1 (by decide)) (by decide))
  have c55 : M5 (27) = .inl (2, 400, .inr (.inl (fun _ => 0))) := (fr5 _ (by omega)).trans (hz_mne (hz_mne g4_2 (by decide)) (by decide))
  have c56 : M5 (28) = .inl (0, 400, .inl (fun _ => 0)) := (fr5 _ (by omega)).trans (hz_mne (hz_mne g4_3 (by decide)) (by decide))
  have c57 : M5 (29) = .inl (2, 400, .inr (.inl (fun _ => 0))) := (fr5 _ (by omega)).trans (hz_mne (hz_mne g4_4 (by decide)) (by decide))
  have c58 : M5 (30) = .inl (2, 400, .inr (.inl (fun _ => 0))) := (fr5 _ (by omega)).trans (hz_mne (hz_mne g4_5 (by decide)) (by decide))
  have c59 : M5 (31) = .inl (0, 400, .inl (fun _ => 0)) := (fr5 _ (by omega)).trans (hz_mne (hz_mne g4_6 (by decide)) (by decide))
  have c60 : M5 (32) = .inl (3, 400, .inl (fun _ => 0)) := (fr5 _ (by omega)).trans (hz_mne (hz_mne g4_7 (by decide)) (by decide))
  have c61 : M5 (33) = .inl (0, 113, .inl (fun _ => 0)) := (fr5 _ (by omega)).trans (hz_mne (hz_mne g4_8 (by decide)) (by decide))
  have c62 : M5 (34) = .inl (0, 9, .inl (fun _ => 0)) := (fr5 _ (by omega)).trans (hz_mne (hz_mne g4_9 (by decide)) (by decide))
  have c63 : M5 (35) = .inl (1, 256, .inl (fun _ => 0)) := (fr5 _ (by omega)).trans (hz_mne (hz_mne g4_10 (by decide)) (by decide))
  have c64 : M5 (36) = .inl (1, 2947, .inl (fun _ => 0)) := (fr5 _ (by omega)).trans (hz_mne (hz_mne g4_11 (by decide)) (by decide))
  have c65 : M5 (37) = .inl (1, 32, .inl (fun _ => 0)) := (fr5 _ (by omega)).trans (hz_mne (hz_mne g4_12 (by decide)) (by decide))
  have c66 : M5 (38) = .inl (2, 8, .inr (.inl (fun _ => 0))) := (fr5 _ (by omega)).trans (hz_mne (hz_mne g4_13 (by decide)) (by decide))
  refine hz_putF (pc := 83) (hz_dec kX11_init 40 rfl) fo_X11_53 ft_X11_4 rfl rfl c36 (by decide) (by decide) rfl rfl (Nat.le_of_ble_eq_true rfl) ?_
  refine hz_mem (pc := 86) (M2 := (va_up M5 8 (.inr (11, [.ref 9, .ref 13, .ref 20, .ref 25, .ref 39, .null, .null, .null, .int (nI 0), .int (nI 0), .null, .null, .null])))) rfl ?_
  refine hz_aloadn (pc := 86) 1 (hz_dec kX11_init 41 rfl) rfl ?_
  refine hz_nX5 (pc := 87) (hz_dec kX11_init 42 rfl) cl_X11_57 (by omega) (by omega) ?_
  refine hz_dup (pc := 90) (hz_dec kX11_init 43 rfl) rfl ?_
  refine hz_iloadn (pc := 91) 0 (hz_dec kX11_init 44 rfl) rfl ?_
  refine hz_callI (pc := 92) (a := 45) (As := [.int (nI nn)]) (st := [.ref 45, .ref 8]) (hz_dec kX11_init 45 rfl) co_X11_59 im_X5_init rfl rfl (c_nw5 (by decide) (va_up_self _ _ _)) rfl (by decide) ⟨by omega, by omega⟩ (Nat.le_of_ble_eq_true rfl) rfl (fun r9 z9 M6 hp9 => ?_)
  obtain ⟨rfl, rfl, fr6, g6_0, g6_1, g6_2, g6_3, g6_4, g6_5, g6_6, g6_7, g6_8, g6_9⟩ := hp9
  have c67 : M6 (8) = .inr (11, [.ref 9, .ref 13, .ref 20, .ref 25, .ref 39, .null, .null, .null, .int (nI 0), .int (nI 0), .null, .null, .null]) := (fr6 _ (by omega)).trans (hz_mne (va_up_self _ _ _) (by decide))
  have c68 : M6 (9) = .inr (8, [.ref 10, .ref 11, .ref 12]) := (fr6 _ (by omega)).trans (hz_mne (hz_mne c37 (by decide)) (by decide))
  have c69 : M6 (10) = .inl (0, 8, .inl (fun _ => 0)) := (fr6 _ (by omega)).trans (hz_mne (hz_mne c38 (by decide)) (by decide))
  have c70 : M6 (11) = .inl (0, 64, .inl (fun _ => 0)) := (fr6 _ (by omega)).trans (hz_mne (hz_mne c39 (by decide)) (by decide))
  have c71 : M6 (12) = .inl (1, 32, .inl (fun _ => 0)) := (fr6 _ (by omega)).trans (hz_mne (hz_mne c40 (by decide)) (by decide))
  have c72 : M6 (13) = .inr (4, [.ref 9, .ref 14, .ref 15, .ref 16, .ref 17, .ref 18, .ref 19]) := (fr6 _ (by omega)).trans (hz_mne (hz_mne c41 (by decide)) (by decide))
  have c73 : M6 (14) = .inl (2, 8, .inr (.inl (fun _ => 0))) := (fr6 _ (by omega)).trans (hz_mne (hz_mne c42 (by decide)) (by decide))
  have c74 : M6 (15) = .inl (0, 8, .inl (fun _ => 0)) := (fr6 _ (by omega)).trans (hz_mne (hz_mne c43 (by decide)) (by decide))
  have c75 : M6 (16) = .inl (0, 8, .inl (fun _ => 0)) := (fr6 _ (by omega)).trans (hz_mne (hz_mne c44 (by decide)) (by decide))
  have c76 : M6 (17) = .inl (1, 10, .inl (fun _ => 0)) := (fr6 _ (by omega)).trans (hz_mne (hz_mne c45 (by decide)) (by decide))
  have c77 : M6 (18) = .inl (1, 64, .inl (fun _ => 0)) := (fr6 _ (by omega)).trans (hz_mne (hz_mne c46 (by decide)) (by decide))
  have c78 : M6 (19) = .inl (1, 358, .inl (fun _ => 0)) := (fr6 _ (by omega)).trans (hz_mne (hz_mne c47 (by decide)) (by decide))
  have c79 : M6 (20) = .inr (9, [.ref 21, .ref 22, .ref 23, .ref 24, .int (nI 0)]) := (fr6 _ (by omega)).trans (hz_mne (hz_mne c48 (by decide)) (by decide))
  have c80 : M6 (21) = .inl (0, 8, .inl (fun _ => 0)) := (fr6 _ (by omega)).trans (hz_mne (hz_mne c49 (by decide)) (by decide))
  have c81 : M6 (22) = .inl (0, 8, .inl (fun _ => 0)) := (fr6 _ (by omega)).trans (hz_mne (hz_mne c50 (by decide)) (by decide))
  have c82 : M6 (23) = .inl (0, 8, .inl (fun _ => 0)) := (fr6 _ (by omega)).trans (hz_mne (hz_mne c51 (by decide)) (by decide))
  have c83 : M6 (24) = .inl (0, 8, .inl (fun _ => 0)) := (fr6 _ (by omega)).trans (hz_mne (hz_mne c52 (by decide)) (by decide))
  have c84 : M6 (25) = .inr (3, [.ref 9, .ref 13, .ref 20, .ref 26, .ref 34, .ref 35, .ref 36, .ref 37, .ref 38, .int (nI 0), .long 0]) := (fr6 _ (by omega)).trans (hz_mne (hz_mne c53 (by decide)) (by decide))
  have c85 : M6 (26) = .inr (1, [.ref 27, .ref 28, .ref 29, .ref 30, .ref 31, .ref 32, .int (nI 0), .ref 33]) := (fr6 _ (by omega)).trans (hz_mne (hz_mne c54 (by decide)) (by decide))
  have c86 : M6 (27) = .inl (2, 400, .inr (.inl (fun _ => 0))) := (fr6 _ (by omega)).trans (hz_mne (hz_mne c55 (by decide)) (by decide))
  have c87 : M6 (28) = .inl (0, 400, .inl (fun _ => 0)) := (fr6 _ (by omega)).trans (hz_mne (hz_mne c56 (by decide)) (by decide))
  have c88 : M6 (29) = .inl (2, 400, .inr (.inl (fun _ => 0))) := (fr6 _ (by omega)).trans (hz_mne (hz_mne c57 (by decide)) (by decide))
  have c89 : M6 (30) = .inl (2, 400, .inr (.inl (fun _ => 0))) := (fr6 _ (by omega)).trans (hz_mne (hz_mne c58 (by decide)) (by decide))
  have c90 : M6 (31) = .inl (0, 400, .inl (fun _ => 0)) := (fr6 _ (by omega)).trans (hz_mne (hz_mne c59 (by decide)) (by decide))
  have c91 : M6 (32) = .inl (3, 400, .inl (fun _ => 0)) := (fr6 _ (by omega)).trans (hz_mne (hz_mne c60 (by decide)) (by decide))
  have c92 : M6 (33) = .inl (0, 113, .inl (fun _ => 0)) := (fr6 _ (by omega)).trans (hz_mne (hz_mne c61 (by decide)) (by decide))
  have c93 : M6 (34) = .inl (0, 9, .inl (fun _ => 0)) := (fr6 _ (by omega)).trans (hz_mne (hz_mne c62 (by decide)) (by decide))
  have c94 : M6 (35) = .inl (1, 256, .inl (fun _ => 0)) := (fr6 _ (by omega)).trans (hz_mne (hz_mne c63 (by decide)) (by decide))
  have c95 : M6 (36) = .inl (1, 2947, .inl (fun _ => 0)) := (fr6 _ (by omega)).trans (hz_mne (hz_mne c64 (by decide)) (by decide))
  have c96 : M6 (37) = .inl (1, 32, .inl (fun _ => 0)) := (fr6 _ (by omega)).trans (hz_mne (hz_mne c65 (by decide)) (by decide))
  have c97 : M6 (38) = .inl (2, 8, .inr (.inl (fun _ => 0))) := (fr6 _ (by omega)).trans (hz_mne (hz_mne c66 (by decide)) (by decide))
  have c98 : M6 (39) = .inr (2, [.int (nI 0), .ref 40, .ref 41, .ref 42, .int (nI 0), .ref 43, .ref 44]) := (fr6 _ (by omega)).trans (hz_mne (hz_mne g5_0 (by decide)) (by decide))
  have c99 : M6 (40) = .inl (2, 4, .inr (.inl (fun _ => 0))) := (fr6 _ (by omega)).trans (hz_mne (hz_mne g5_1 (by decide)) (by decide))
  have c100 : M6 (41) = .inl (0, 4, .inl (fun _ => 0)) := (fr6 _ (by omega)).trans (hz_mne (hz_mne g5_2 (by decide)) (by decide))
  have c101 : M6 (42) = .inl (2, 4, .inr (.inl (fun _ => 0))) := (fr6 _ (by omega)).trans (hz_mne (hz_mne g5_3 (by decide)) (by decide))
  have c102 : M6 (43) = .inl (2, 4, .inr (.inl (fun _ => 0))) := (fr6 _ (by omega)).trans (hz_mne (hz_mne g5_4 (by decide)) (by decide))
  have c103 : M6 (44) = .inl (2, 4, .inr (.inl (fun _ => 0))) := (fr6 _ (by omega)).trans (hz_mne (hz_mne g5_5 (by decide)) (by decide))
  refine hz_putF (pc := 95) (hz_dec kX11_init 46 rfl) fo_X11_62 ft_X11_5 rfl rfl c67 (by decide) (by decide) rfl rfl (Nat.le_of_ble_eq_true rfl) ?_
  refine hz_mem (pc := 98) (M2 := (va_up M6 8 (.inr (11, [.ref 9, .ref 13, .ref 20, .ref 25, .ref 39, .ref 45, .null, .null, .int (nI 0), .int (nI 0), .null, .null, .null])))) rfl ?_
  refine hz_aloadn (pc := 98) 1 (hz_dec kX11_init 47 rfl) rfl ?_
  refine hz_iloadn (pc := 99) 0 (hz_dec kX11_init 48 rfl) rfl ?_
  refine hz_newN (pc := 100) (hz_dec kX11_init 49 rfl) cl_X11_66 (by omega) (by omega) (by omega) ?_
  refine hz_putF (pc := 103) (hz_dec kX11_init 50 rfl) fo_X11_68 ft_X11_6 rfl rfl (hz_mne (va_up_self _ _ _) (by decide)) (by decide) (by decide) rfl rfl (Nat.le_of_ble_eq_true rfl) ?_
  refine hz_mem (pc := 106) (M2 := (va_up (va_up (va_up M6 8 (.inr (11, [.ref 9, .ref 13, .ref 20, .ref 25, .ref 39, .ref 45, .null, .null, .int (nI 0), .int (nI 0), .null, .null, .null]))) 55 (.inl (4, nn, .inr (.inr (.inr (.inr (fun _ => none))))))) 8 (.inr (11, [.ref 9, .ref 13, .ref 20, .ref 25, .ref 39, .ref 45, .ref 55, .null, .int (nI 0), .int (nI 0), .null, .null, .null])))) rfl ?_
  refine hz_aloadn (pc := 106) 1 (hz_dec kX11_init 51 rfl) rfl ?_
  refine hz_sipush (pc := 107) (v := nI 4000) (hz_dec kX11_init 52 rfl) (by decide) ?_
  refine hz_nB (pc := 110) (hz_dec kX11_init 53 rfl) (by omega) (by omega) (by omega) ?_
  refine hz_putF (pc := 112) (hz_dec kX11_init 54 rfl) fo_X11_72 ft_X11_7 rfl rfl (hz_mne (va_up_self _ _ _) (by decide)) (by decide) (by decide) rfl rfl (Nat.le_of_ble_eq_true rfl) ?_
  refine hz_mem (pc := 115) (M2 := (va_up (va_up (va_up (va_up (va_up M6 8 (.inr (11, [.ref 9, .ref 13, .ref 20, .ref 25, .ref 39, .ref 45, .null, .null, .int (nI 0), .int (nI 0), .null, .null, .null]))) 55 (.inl (4, nn, .inr (.inr (.inr (.inr (fun _ => none))))))) 8 (.inr (11, [.ref 9, .ref 13, .ref 20, .ref 25, .ref 39, .ref 45, .ref 55, .null, .int (nI 0), .int (nI 0), .null, .null, .null]))) 56 (.inl (1, 4000, .inl (fun _ => 0)))) 8 (.inr (11, [.ref 9, .ref 13, .ref 20, .ref 25, .ref 39, .ref 45, .ref 55, .ref 56, .int (nI 0), .int (nI 0), .null, .null, .null])))) rfl ?_
  refine hz_aloadn (pc := 115) 1 (hz_dec kX11_init 55 rfl) rfl ?_
  refine hz_ldc (pc := 116) (v := nI 200000) (hz_dec kX11_init 56 rfl) ks_X11_76 ?_
  refine hz_puti (pc := 118) (hz_dec kX11_init 57 rfl) fo_X11_77 ft_X11_9 (va_up_self _ _ _) (by decide) (by decide) (Nat.le_of_ble_eq_true rfl) ?_
  refine hz_mem (pc := 121) (M2 := (va_up (va_up (va_up (va_up (va_up (va_up M6 8 (.inr (11, [.ref 9, .ref 13, .ref 20, .ref 25, .ref 39, .ref 45, .null, .null, .int (nI 0), .int (nI 0), .null, .null, .null]))) 55 (.inl (4, nn, .inr (.inr (.inr (.inr (fun _ => none))))))) 8 (.inr (11, [.ref 9, .ref 13, .ref 20, .ref 25, .ref 39, .ref 45, .ref 55, .null, .int (nI 0), .int (nI 0), .null, .null, .null]))) 56 (.inl (1, 4000, .inl (fun _ => 0)))) 8 (.inr (11, [.ref 9, .ref 13, .ref 20, .ref 25, .ref 39, .ref 45, .ref 55, .ref 56, .int (nI 0), .int (nI 0), .null, .null, .null]))) 8 (.inr (11, [.ref 9, .ref 13, .ref 20, .ref 25, .ref 39, .ref 45, .ref 55, .ref 56, .int (nI 0), .int (nI 200000), .null, .null, .null])))) rfl ?_
  refine hz_aloadn (pc := 121) 1 (hz_dec kX11_init 58 rfl) rfl ?_
  refine hz_sipush (pc := 122) (v := nI 1280) (hz_dec kX11_init 59 rfl) (by decide) ?_
  refine hz_nB (pc := 125) (hz_dec kX11_init 60 rfl) (by omega) (by omega) (by omega) ?_
  refine hz_putF (pc := 127) (hz_dec kX11_init 61 rfl) fo_X11_81 ft_X11_10 rfl rfl (hz_mne (va_up_self _ _ _) (by decide)) (by decide) (by decide) rfl rfl (Nat.le_of_ble_eq_true rfl) ?_
  refine hz_mem (pc := 130) (M2 := (va_up (va_up (va_up (va_up (va_up (va_up (va_up (va_up M6 8 (.inr (11, [.ref 9, .ref 13, .ref 20, .ref 25, .ref 39, .ref 45, .null, .null, .int (nI 0), .int (nI 0), .null, .null, .null]))) 55 (.inl (4, nn, .inr (.inr (.inr (.inr (fun _ => none))))))) 8 (.inr (11, [.ref 9, .ref 13, .ref 20, .ref 25, .ref 39, .ref 45, .ref 55, .null, .int (nI 0), .int (nI 0), .null, .null, .null]))) 56 (.inl (1, 4000, .inl (fun _ => 0)))) 8 (.inr (11, [.ref 9, .ref 13, .ref 20, .ref 25, .ref 39, .ref 45, .ref 55, .ref 56, .int (nI 0), .int (nI 0), .null, .null, .null]))) 8 (.inr (11, [.ref 9, .ref 13, .ref 20, .ref 25, .ref 39, .ref 45, .ref 55, .ref 56, .int (nI 0), .int (nI 200000), .null, .null, .null]))) 57 (.inl (1, 1280, .inl (fun _ => 0)))) 8 (.inr (11, [.ref 9, .ref 13, .ref 20, .ref 25, .ref 39, .ref 45, .ref 55, .ref 56, .int (nI 0), .int (nI 200000), .ref 57, .null, .null])))) rfl ?_
  refine hz_aloadn (pc := 130) 1 (hz_dec kX11_init 62 rfl) rfl ?_
  refine hz_nX7 (pc := 131) (hz_dec kX11_init 63 rfl) cl_X11_84 (by omega) (by omega) ?_
  refine hz_dup (pc := 134) (hz_dec kX11_init 64 rfl) rfl ?_
  refine hz_bipush (pc := 135) (v := nI 16) (hz_dec kX11_init 65 rfl) (by decide) ?_
  refine hz_sipush (pc := 137) (v := nI 5728) (hz_dec kX11_init 66 rfl) (by decide) ?_
  refine hz_callI (pc := 140) (a := 58) (As := [.int (nI 16), .int (nI 5728)]) (st := [.ref 58, .ref 8]) (hz_dec kX11_init 67 rfl) co_X11_86 im_X7_init rfl rfl (c_nw7 (by decide) (by decide) (by decide) (va_up_self _ _ _)) rfl (by decide) ⟨by omega, by omega⟩ (Nat.le_of_ble_eq_true rfl) rfl (fun r9 z9 M7 hp9 => ?_)
  obtain ⟨rfl, rfl, fr7, g7_0, g7_1, g7_2⟩ := hp9
  have c104 : M7 (8) = .inr (11, [.ref 9, .ref 13, .ref 20, .ref 25, .ref 39, .ref 45, .ref 55, .ref 56, .int (nI 0), .int (nI 200000), .ref 57, .null, .null]) := (fr7 _ (by omega)).trans (hz_mne (va_up_self _ _ _) (by decide))
  have c105 : M7 (9) = .inr (8, [.ref 10, .ref 11, .ref 12]) := (fr7 _ (by omega)).trans (hz_mne (hz_mne (hz_mne (hz_mne (hz_mne (hz_mne (hz_mne (hz_mne (hz_mne c68 (by decide)) (by decide)) (by decide)) (by decide)) (by decide)) (by decide)) (by decide)) (by decide)) (by decide))
  have c106 : M7 (10) = .inl (0, 8, .inl (fun _ => 0)) := (fr7 _ (by omega)).trans (hz_mne (hz_mne (hz_mne (hz_mne (hz_mne (hz_mne (hz_mne (hz_mne (hz_mne c69 (by decide)) (by decide)) (by decide)) (by decide)) (by decide)) (by decide)) (by decide)) (by decide)) (by decide))
  have c107 : M7 (11) = .inl (0, 64, .inl (fun _ => 0)) := (fr7 _ (by omega)).trans (hz_mne (hz_mne (hz_mne (hz_mne (hz_mne (hz_mne (hz_mne (hz_mne (hz_mne c70 (by decide)) (by decide)) (by decide)) (by decide)) (by decide)) (by decide)) (by decide)) (by decide)) (by decide))
  have c108 : M7 (12) = .inl (1, 32, .inl (fun _ => 0)) := (fr7 _ (by omega)).trans (hz_mne (hz_mne (hz_mne (hz_mne (hz_mne (hz_mne (hz_mne (hz_mne (hz_mne c71 (by decide)) (by decide)) (by decide)) (by decide)) (by decide)) (by decide)) (by decide)) (by decide)) (by decide))
  have c109 : M7 (13) = .inr (4, [.ref 9, .ref 14, .ref 15, .ref 16, .ref 17, .ref 18, .ref 19]) := (fr7 _ (by omega)).trans (hz_mne (hz_mne (hz_mne (hz_mne (hz_mne (hz_mne (hz_mne (hz_mne (hz_mne c72 (by decide)) (by decide)) (by decide)) (by decide)) (by decide)) (by decide)) (by decide)) (by decide)) (by decide))
  have c110 : M7 (14) = .inl (2, 8, .inr (.inl (fun _ => 0))) := (fr7 _ (by omega)).trans (hz_mne (hz_mne (hz_mne (hz_mne (hz_mne (hz_mne (hz_mne (hz_mne (hz_mne c73 (by decide)) (by decide)) (by decide)) (by decide)) (by decide)) (by decide)) (by decide)) (by decide)) (by decide))
  have c111 : M7 (15) = .inl (0, 8, .inl (fun _ => 0)) := (fr7 _ (by omega)).trans (hz_mne (hz_mne (hz_mne (hz_mne (hz_mne (hz_mne (hz_mne (hz_mne (hz_mne c74 (by decide)) (by decide)) (by decide)) (by decide)) (by decide)) (by decide)) (by decide)) (by decide)) (by decide))
  have c112 : M7 (16) = .inl (0, 8, .inl (fun _ => 0)) := (fr7 _ (by omega)).trans (hz_mne (hz_mne (hz_mne (hz_mne (hz_mne (hz_mne (hz_mne (hz_mne (hz_mne c75 (by decide)) (by decide)) (by decide)) (by decide)) (by decide)) (by decide)) (by decide)) (by decide)) (by decide))
  have c113 : M7 (17) = .inl (1, 10, .inl (fun _ => 0)) := (fr7 _ (by omega)).trans (hz_mne (hz_mne (hz_mne (hz_mne (hz_mne (hz_mne (hz_mne (hz_mne (hz_mne c76 (by decide)) (by decide)) (by decide)) (by decide)) (by decide)) (by decide)) (by decide)) (by decide)) (by decide))
  have c114 : M7 (18) = .inl (1, 64, .inl (fun _ => 0)) := (fr7 _ (by omega)).trans (hz_mne (hz_mne (hz_mne (hz_mne (hz_mne (hz_mne (hz_mne (hz_mne (hz_mne c77 (by decide)) (by decide)) (by decide)) (by decide)) (by decide)) (by decide)) (by decide)) (by decide)) (by decide))
  have c115 : M7 (19) = .inl (1, 358, .inl (fun _ => 0)) := (fr7 _ (by omega)).trans (hz_mne (hz_mne (hz_mne (hz_mne (hz_mne (hz_mne (hz_mne (hz_mne (hz_mne c78 (by decide)) (by decide)) (by decide)) (by decide)) (by decide)) (by decide)) (by decide)) (by decide)) (by decide))
  have c116 : M7 (20) = .inr (9, [.ref 21, .ref 22, .ref 23, .ref 24, .int (nI 0)]) := (fr7 _ (by omega)).trans (hz_mne (hz_mne (hz_mne (hz_mne (hz_mne (hz_mne (hz_mne (hz_mne (hz_mne c79 (by decide)) (by decide)) (by decide)) (by decide)) (by decide)) (by decide)) (by decide)) (by decide)) (by decide))
  have c117 : M7 (21) = .inl (0, 8, .inl (fun _ => 0)) := (fr7 _ (by omega)).trans (hz_mne (hz_mne (hz_mne (hz_mne (hz_mne (hz_mne (hz_mne (hz_mne (hz_mne c80 (by decide)) (by decide)) (by decide)) (by decide)) (by decide)) (by decide)) (by decide)) (by decide)) (by decide))
  have c118 : M7 (22) = .inl (0, 8, .inl (fun _ => 0)) := (fr7 _ (by omega)).trans (hz_mne (hz_mne (hz_mne (hz_mne (hz_mne (hz_mne (hz_mne (hz_mne (hz_mne c81 (by decide)) (by decide)) (by decide)) (by decide)) (by decide)) (by decide)) (by decide)) (by decide)) (by decide))
  have c119 : M7 (23) = .inl (0, 8, .inl (fun _ => 0)) := (fr7 _ (by omega)).trans (hz_mne (hz_mne (hz_mne (hz_mne (hz_mne (hz_mne (hz_mne (hz_mne (hz_mne c82 (by decide)) (by decide)) (by decide)) (by decide)) (by decide)) (by decide)) (by decide)) (by decide)) (by decide))
  have c120 : M7 (24) = .inl (0, 8, .inl (fun _ => 0)) := (fr7 _ (by omega)).trans (hz_mne (hz_mne (hz_mne (hz_mne (hz_mne (hz_mne (hz_mne (hz_mne (hz_mne c83 (by decide)) (by decide)) (by decide)) (by decide)) (by decide)) (by decide)) (by decide)) (by decide)) (by decide))
  have c121 : M7 (25) = .inr (3, [.ref 9, .ref 13, .ref 20, .ref 26, .ref 34, .ref 35, .ref 36, .ref 37, .ref 38, .int (nI 0), .long 0]) := (fr7 _ (by omega)).trans (hz_mne (hz_mne (hz_mne (hz_mne (hz_mne (hz_mne (hz_mne (hz_mne (hz_mne c84 (by decide)) (by decide)) (by decide)) (by decide)) (by decide)) (by decide)) (by decide)) (by decide)) (by decide))
  have c122 : M7 (26) = .inr (1, [.ref 27, .ref 28, .ref 29, .ref 30, .ref 31, .ref 32, .int (nI 0), .ref 33]) := (fr7 _ (by omega)).trans (hz_mne (hz_mne (hz_mne (hz_mne (hz_mne (hz_mne (hz_mne (hz_mne (hz_mne c85 (by decide)) (by decide)) (by decide)) (by decide)) (by decide)) (by decide)) (by decide)) (by decide)) (by decide))
  have c123 : M7 (27) = .inl (2, 400, .inr (.inl (fun _ => 0))) := (fr7 _ (by omega)).trans (hz_mne (hz_mne (hz_mne (hz_mne (hz_mne (hz_mne (hz_mne (hz_mne (hz_mne c86 (by decide)) (by decide)) (by decide)) (by decide)) (by decide)) (by decide)) (by decide)) (by decide)) (by decide))
  have c124 : M7 (28) = .inl (0, 400, .inl (fun _ => 0)) := (fr7 _ (by omega)).trans (hz_mne (hz_mne (hz_mne (hz_mne (hz_mne (hz_mne (hz_mne (hz_mne (hz_mne c87 (by decide)) (by decide)) (by decide)) (by decide)) (by decide)) (by decide)) (by decide)) (by decide)) (by decide))
  have c125 : M7 (29) = .inl (2, 400, .inr (.inl (fun _ => 0))) := (fr7 _ (by omega)).trans (hz_mne (hz_mne (hz_mne (hz_mne (hz_mne (hz_mne (hz_mne (hz_mne (hz_mne c88 (by decide)) (by decide)) (by decide)) (by decide)) (by decide)) (by decide)) (by decide)) (by decide)) (by decide))
  have c126 : M7 (30) = .inl (2, 400, .inr (.inl (fun _ => 0))) := (fr7 _ (by omega)).trans (hz_mne (hz_mne (hz_mne (hz_mne (hz_mne (hz_mne (hz_mne (hz_mne (hz_mne c89 (by decide)) (by decide)) (by decide)) (by decide)) (by decide)) (by decide)) (by decide)) (by decide)) (by decide))
  have c127 : M7 (31) = .inl (0, 400, .inl (fun _ => 0)) := (fr7 _ (by omega)).trans (hz_mne (hz_mne (hz_mne (hz_mne (hz_mne (hz_mne (hz_mne (hz_mne (hz_mne c90 (by decide)) (by decide)) (by decide)) (by decide)) (by decide)) (by decide)) (by decide)) (by decide)) (by decide))
  have c128 : M7 (32) = .inl (3, 400, .inl (fun _ => 0)) := (fr7 _ (by omega)).trans (hz_mne (hz_mne (hz_mne (hz_mne (hz_mne (hz_mne (hz_mne (hz_mne (hz_mne c91 (by decide)) (by decide)) (by decide)) (by decide)) (by decide)) (by decide)) (by decide)) (by decide)) (by decide))
  have c129 : M7 (33) = .inl (0, 113, .inl (fun _ => 0)) := (fr7 _ (by omega)).trans (hz_mne (hz_mne (hz_mne (hz_mne (hz_mne (hz_mne (hz_mne (hz_mne (hz_mne c92 (by decide)) (by decide)) (by decide)) (by decide)) (by decide)) (by decide)) (by decide)) (by decide)) (by decide))
  have c130 : M7 (34) = .inl (0, 9, .inl (fun _ => 0)) := (fr7 _ (by omega)).trans (hz_mne (hz_mne (hz_mne (hz_mne (hz_mne (hz_mne (hz_mne (hz_mne (hz_mne c93 (by decide)) (by decide)) (by decide)) (by decide)) (by decide)) (by decide)) (by decide)) (by decide)) (by decide))
  have c131 : M7 (35) = .inl (1, 256, .inl (fun _ => 0)) := (fr7 _ (by omega)).trans (hz_mne (hz_mne (hz_mne (hz_mne (hz_mne (hz_mne (hz_mne (hz_mne (hz_mne c94 (by decide)) (by decide)) (by decide)) (by decide)) (by decide)) (by decide)) (by decide)) (by decide)) (by decide))
  have c132 : M7 (36) = .inl (1, 2947, .inl (fun _ => 0)) := (fr7 _ (by omega)).trans (hz_mne (hz_mne (hz_mne (hz_mne (hz_mne (hz_mne (hz_mne (hz_mne (hz_mne c95 (by decide)) (by decide)) (by decide)) (by decide)) (by decide)) (by decide)) (by decide)) (by decide)) (by decide))
  have c133 : M7 (37) = .inl (1, 32, .inl (fun _ => 0)) := (fr7 _ (by omega)).trans (hz_mne (hz_mne (hz_mne (hz_mne (hz_mne (hz_mne (hz_mne (hz_mne (hz_mne c96 (by decide)) (by decide)) (by decide)) (by decide)) (by decide)) (by decide)) (by decide)) (by decide)) (by decide))
  have c134 : M7 (38) = .inl (2, 8, .inr (.inl (fun _ => 0))) := (fr7 _ (by omega)).trans (hz_mne (hz_mne (hz_mne (hz_mne (hz_mne (hz_mne (hz_mne (hz_mne (hz_mne c97 (by decide)) (by decide)) (by decide)) (by decide)) (by decide)) (by decide)) (by decide)) (by decide)) (by decide))
  have c135 : M7 (39) = .inr (2, [.int (nI 0), .ref 40, .ref 41, .ref 42, .int (nI 0), .ref 43, .ref 44]) := (fr7 _ (by omega)).trans (hz_mne (hz_mne (hz_mne (hz_mne (hz_mne (hz_mne (hz_mne (hz_mne (hz_mne c98 (by decide)) (by decide)) (by decide)) (by decide)) (by decide)) (by decide)) (by decide)) (by decide)) (by decide))
  have c136 : M7 (40) = .inl (2, 4, .inr (.inl (fun _ => 0))) := (fr7 _ (by omega)).trans (hz_mne (hz_mne (hz_mne (hz_mne (hz_mne (hz_mne (hz_mne (hz_mne (hz_mne c99 (by decide)) (by decide)) (by decide)) (by decide)) (by decide)) (by decide)) (by decide)) (by decide)) (by decide))
  have c137 : M7 (41) = .inl (0, 4, .inl (fun _ => 0)) := (fr7 _ (by omega)).trans (hz_mne (hz_mne (hz_mne (hz_mne (hz_mne (hz_mne (hz_mne (hz_mne (hz_mne c100 (by decide)) (by decide)) (by decide)) (by decide)) (by decide)) (by decide)) (by decide)) (by decide)) (by decide))
  have c138 : M7 (42) = .inl (2, 4, .inr (.inl (fun _ => 0))) := (fr7 _ (by omega)).trans (hz_mne (hz_mne (hz_mne (hz_mne (hz_mne (hz_mne (hz_mne (hz_mne (hz_mne c101 (by decide)) (by decide)) (by decide)) (by decide)) (by decide)) (by decide)) (by decide)) (by decide)) (by decide))
  have c139 : M7 (43) = .inl (2, 4, .inr (.inl (fun _ => 0))) := (fr7 _ (by omega)).trans (hz_mne (hz_mne (hz_mne (hz_mne (hz_mne (hz_mne (hz_mne (hz_mne (hz_mne c102 (by decide)) (by decide)) (by decide)) (by decide)) (by decide)) (by decide)) (by decide)) (by decide)) (by decide))
  have c140 : M7 (44) = .inl (2, 4, .inr (.inl (fun _ => 0))) := (fr7 _ (by omega)).trans (hz_mne (hz_mne (hz_mne (hz_mne (hz_mne (hz_mne (hz_mne (hz_mne (hz_mne c103 (by decide)) (by decide)) (by decide)) (by decide)) (by decide)) (by decide)) (by decide)) (by decide)) (by decide))
  have c141 : M7 (45) = .inr (5, [.ref 46, .ref 49, .ref 50, .ref 51, .ref 52, .int (nI nn), .ref 54, .int (nI 0), .int (nI 0), .ref 53, .int (nI 0), .int (nI 0), .int (nI 0)]) := (fr7 _ (by omega)).trans (hz_mne (hz_mne (hz_mne (hz_mne (hz_mne (hz_mne (hz_mne (hz_mne (hz_mne g6_0 (by decide)) (by decide)) (by decide)) (by decide)) (by decide)) (by decide)) (by decide)) (by decide)) (by decide))
  have c142 : M7 (46) = .inr (7, [.ref 47, .ref 48, .int (nI 0)]) := (fr7 _ (by omega)).trans (hz_mne (hz_mne (hz_mne (hz_mne (hz_mne (hz_mne (hz_mne (hz_mne (hz_mne g6_1 (by decide)) (by decide)) (by decide)) (by decide)) (by decide)) (by decide)) (by decide)) (by decide)) (by decide))
  have c143 : M7 (47) = .inl (1, 40000, .inl (fun _ => 0)) := (fr7 _ (by omega)).trans (hz_mne (hz_mne (hz_mne (hz_mne (hz_mne (hz_mne (hz_mne (hz_mne (hz_mne g6_2 (by decide)) (by decide)) (by decide)) (by decide)) (by decide)) (by decide)) (by decide)) (by decide)) (by decide))
  have c144 : M7 (48) = .inl (0, 201, .inl (fun _ => 0)) := (fr7 _ (by omega)).trans (hz_mne (hz_mne (hz_mne (hz_mne (hz_mne (hz_mne (hz_mne (hz_mne (hz_mne g6_3 (by decide)) (by decide)) (by decide)) (by decide)) (by decide)) (by decide)) (by decide)) (by decide)) (by decide))
  have c145 : M7 (49) = .inl (0, 200, .inl (fun _ => 0)) := (fr7 _ (by omega)).trans (hz_mne (hz_mne (hz_mne (hz_mne (hz_mne (hz_mne (hz_mne (hz_mne (hz_mne g6_4 (by decide)) (by decide)) (by decide)) (by decide)) (by decide)) (by decide)) (by decide)) (by decide)) (by decide))
  have c146 : M7 (50) = .inl (0, 200, .inl (fun _ => 0)) := (fr7 _ (by omega)).trans (hz_mne (hz_mne (hz_mne (hz_mne (hz_mne (hz_mne (hz_mne (hz_mne (hz_mne g6_5 (by decide)) (by decide)) (by decide)) (by decide)) (by decide)) (by decide)) (by decide)) (by decide)) (by decide))
  have c147 : M7 (51) = .inl (0, 200, .inl (fun _ => 0)) := (fr7 _ (by omega)).trans (hz_mne (hz_mne (hz_mne (hz_mne (hz_mne (hz_mne (hz_mne (hz_mne (hz_mne g6_6 (by decide)) (by decide)) (by decide)) (by decide)) (by decide)) (by decide)) (by decide)) (by decide)) (by decide))
  have c148 : M7 (52) = .inl (0, 200, .inl (fun _ => 0)) := (fr7 _ (by omega)).trans (hz_mne (hz_mne (hz_mne (hz_mne (hz_mne (hz_mne (hz_mne (hz_mne (hz_mne g6_7 (by decide)) (by decide)) (by decide)) (by decide)) (by decide)) (by decide)) (by decide)) (by decide)) (by decide))
  have c149 : M7 (53) = .inl (1, 4000, .inl (fun _ => 0)) := (fr7 _ (by omega)).trans (hz_mne (hz_mne (hz_mne (hz_mne (hz_mne (hz_mne (hz_mne (hz_mne (hz_mne g6_8 (by decide)) (by decide)) (by decide)) (by decide)) (by decide)) (by decide)) (by decide)) (by decide)) (by decide))
  have c150 : M7 (54) = .inl (0, 36, .inl (fun _ => 0)) := (fr7 _ (by omega)).trans (hz_mne (hz_mne (hz_mne (hz_mne (hz_mne (hz_mne (hz_mne (hz_mne (hz_mne g6_9 (by decide)) (by decide)) (by decide)) (by decide)) (by decide)) (by decide)) (by decide)) (by decide)) (by decide))
  have c151 : M7 (55) = .inl (4, nn, .inr (.inr (.inr (.inr (fun _ => none))))) := (fr7 _ (by omega)).trans (hz_mne (hz_mne (hz_mne (hz_mne (hz_mne (hz_mne (hz_mne (va_up_self _ _ _) (by decide)) (by decide)) (by decide)) (by decide)) (by decide)) (by decide)) (by decide))
  have c152 : M7 (56) = .inl (1, 4000, .inl (fun _ => 0)) := (fr7 _ (by omega)).trans (hz_mne (hz_mne (hz_mne (hz_mne (hz_mne (va_up_self _ _ _) (by decide)) (by decide)) (by decide)) (by decide)) (by decide))
  have c153 : M7 (57) = .inl (1, 1280, .inl (fun _ => 0)) := (fr7 _ (by omega)).trans (hz_mne (hz_mne (va_up_self _ _ _) (by decide)) (by decide))
  refine hz_putF (pc := 143) (hz_dec kX11_init 68 rfl) fo_X11_89 ft_X11_11 rfl rfl c104 (by decide) (by decide) rfl rfl (Nat.le_of_ble_eq_true rfl) ?_
  refine hz_mem (pc := 146) (M2 := (va_up M7 8 (.inr (11, [.ref 9, .ref 13, .ref 20, .ref 25, .ref 39, .ref 45, .ref 55, .ref 56, .int (nI 0), .int (nI 200000), .ref 57, .ref 58, .null])))) rfl ?_
  refine hz_aloadn (pc := 146) 1 (hz_dec kX11_init 69 rfl) rfl ?_
  refine hz_bipush (pc := 147) (v := nI 113) (hz_dec kX11_init 70 rfl) (by decide) ?_
  refine hz_nI (pc := 149) (hz_dec kX11_init 71 rfl) (by omega) (by omega) (by omega) ?_
  refine hz_putF (pc := 151) (hz_dec kX11_init 72 rfl) fo_X11_93 ft_X11_12 rfl rfl (hz_mne (va_up_self _ _ _) (by decide)) (by decide) (by decide) rfl rfl (Nat.le_of_ble_eq_true rfl) ?_
  refine hz_mem (pc := 154) (M2 := (va_up (va_up (va_up M7 8 (.inr (11, [.ref 9, .ref 13, .ref 20, .ref 25, .ref 39, .ref 45, .ref 55, .ref 56, .int (nI 0), .int (nI 200000), .ref 57, .ref 58, .null]))) 61 (.inl (0, 113, .inl (fun _ => 0)))) 8 (.inr (11, [.ref 9, .ref 13, .ref 20, .ref 25, .ref 39, .ref 45, .ref 55, .ref 56, .int (nI 0), .int (nI 200000), .ref 57, .ref 58, .ref 61])))) rfl ?_
  refine hz_bipush (pc := 154) (v := nI 103) (hz_dec kX11_init 73 rfl) (by decide) ?_
  refine hz_nB (pc := 156) (hz_dec kX11_init 74 rfl) (by omega) (by omega) (by omega) ?_
  refine hz_astoren (pc := 158) (i := 3) (lo2 := [(3, .ref 62), (2, .int (nI nn)), (0, .ref 8), (1, .int n)]) (hz_dec kX11_init 75 rfl) rfl (by decide) rfl ?_
  refine hz_pick (pc := 159) [0, 1, 2, 3] rfl ?_
  refine hz_W.widen (cn2 := 54) (sn2 := 62721) (by omega) (by omega) ?_
  have f8 : (va_up (va_up (va_up (va_up M7 8 (.inr (11, [.ref 9, .ref 13, .ref 20, .ref 25, .ref 39, .ref 45, .ref 55, .ref 56, .int (nI 0), .int (nI 200000), .ref 57, .ref 58, .null]))) 61 (.inl (0, 113, .inl (fun _ => 0)))) 8 (.inr (11, [.ref 9, .ref 13, .ref 20, .ref 25, .ref 39, .ref 45, .ref 55, .ref 56, .int (nI 0), .int (nI 200000), .ref 57, .ref 58, .ref 61]))) 62 (.inl (1, 103, .inl (fun _ => 0)))) 8 = .inr (11, [.ref 9, .ref 13, .ref 20, .ref 25, .ref 39, .ref 45, .ref 55, .ref 56, .int (nI 0), .int (nI 200000), .ref 57, .ref 58, .ref 61]) := (hz_mne (va_up_self _ _ _) (by decide))
  have f9 : (va_up (va_up (va_up (va_up M7 8 (.inr (11, [.ref 9, .ref 13, .ref 20, .ref 25, .ref 39, .ref 45, .ref 55, .ref 56, .int (nI 0), .int (nI 200000), .ref 57, .ref 58, .null]))) 61 (.inl (0, 113, .inl (fun _ => 0)))) 8 (.inr (11, [.ref 9, .ref 13, .ref 20, .ref 25, .ref 39, .ref 45, .ref 55, .ref 56, .int (nI 0), .int (nI 200000), .ref 57, .ref 58, .ref 61]))) 62 (.inl (1, 103, .inl (fun _ => 0)))) 9 = .inr (8, [.ref 10, .ref 11, .ref 12]) := (hz_mne (hz_mne (hz_mne (hz_mne c105 (by decide)) (by decide)) (by decide)) (by decide))
  have f10 : (va_up (va_up (va_up (va_up M7 8 (.inr (11, [.ref 9, .ref 13, .ref 20, .ref 25, .ref 39, .ref 45, .ref 55, .ref 56, .int (nI 0), .int (nI 200000), .ref 57, .ref 58, .null]))) 61 (.inl (0, 113, .inl (fun _ => 0)))) 8 (.inr (11, [.ref 9, .ref 13, .ref 20, .ref 25, .ref 39, .ref 45, .ref 55, .ref 56, .int (nI 0), .int (nI 200000), .ref 57, .ref 58, .ref 61]))) 62 (.inl (1, 103, .inl (fun _ => 0)))) 10 = .inl (0, 8, .inl (fun _ => 0)) := (hz_mne (hz_mne (hz_mne (hz_mne c106 (by decide)) (by decide)) (by decide)) (by decide))
  have f11 : (va_up (va_up (va_up (va_up M7 8 (.inr (11, [.ref 9, .ref 13, .ref 20, .ref 25, .ref 39, .ref 45, .ref 55, .ref 56, .int (nI 0), .int (nI 200000), .ref 57, .ref 58, .null]))) 61 (.inl (0, 113, .inl (fun _ => 0)))) 8 (.inr (11, [.ref 9, .ref 13, .ref 20, .ref 25, .ref 39, .ref 45, .ref 55, .ref 56, .int (nI 0), .int (nI 200000), .ref 57, .ref 58, .ref 61]))) 62 (.inl (1, 103, .inl (fun _ => 0)))) 11 = .inl (0, 64, .inl (fun _ => 0)) := (hz_mne (hz_mne (hz_mne (hz_mne c107 (by decide)) (by decide)) (by decide)) (by decide))
  have f12 : (va_up (va_up (va_up (va_up M7 8 (.inr (11, [.ref 9, .ref 13, .ref 20, .ref 25, .ref 39, .ref 45, .ref 55, .ref 56, .int (nI 0), .int (nI 200000), .ref 57, .ref 58, .null]))) 61 (.inl (0, 113, .inl (fun _ => 0)))) 8 (.inr (11, [.ref 9, .ref 13, .ref 20, .ref 25, .ref 39, .ref 45, .ref 55, .ref 56, .int (nI 0), .int (nI 200000), .ref 57, .ref 58, .ref 61]))) 62 (.inl (1, 103, .inl (fun _ => 0)))) 12 = .inl (1, 32, .inl (fun _ => 0)) := (hz_mne (hz_mne (hz_mne (hz_mne c108 (by decide)) (by decide)) (by decide)) (by decide))
  have f13 : (va_up (va_up (va_up (va_up M7 8 (.inr (11, [.ref 9, .ref 13, .ref 20, .ref 25, .ref 39, .ref 45, .ref 55, .ref 56, .int (nI 0), .int (nI 200000), .ref 57, .ref 58, .null]))) 61 (.inl (0, 113, .inl (fun _ => 0)))) 8 (.inr (11, [.ref 9, .ref 13, .ref 20, .ref 25, .ref 39, .ref 45, .ref 55, .ref 56, .int (nI 0), .int (nI 200000), .ref 57, .ref 58, .ref 61]))) 62 (.inl (1, 103, .inl (fun _ => 0)))) 13 = .inr (4, [.ref 9, .ref 14, .ref 15, .ref 16, .ref 17, .ref 18, .ref 19]) := (hz_mne (hz_mne (hz_mne (hz_mne c109 (by decide)) (by decide)) (by decide)) (by decide))
  have f14 : (va_up (va_up (va_up (va_up M7 8 (.inr (11, [.ref 9, .ref 13, .ref 20, .ref 25, .ref 39, .ref 45, .ref 55, .ref 56, .int (nI 0), .int (nI 200000), .ref 57, .ref 58, .null]))) 61 (.inl (0, 113, .inl (fun _ => 0)))) 8 (.inr (11, [.ref 9, .ref 13, .ref 20, .ref 25, .ref 39, .ref 45, .ref 55, .ref 56, .int (nI 0), .int (nI 200000), .ref 57, .ref 58, .ref 61]))) 62 (.inl (1, 103, .inl (fun _ => 0)))) 14 = .inl (2, 8, .inr (.inl (fun _ => 0))) := (hz_mne (hz_mne (hz_mne (hz_mne c110 (by decide)) (by decide)) (by decide)) (by decide))
  have f15 : (va_up (va_up (va_up (va_up M7 8 (.inr (11, [.ref 9, .ref 13, .ref 20, .ref 25, .ref 39, .ref 45, .ref 55, .ref 56, .int (nI 0), .int (nI 200000), .ref 57, .ref 58, .null]))) 61 (.inl (0, 113, .inl (fun _ => 0)))) 8 (.inr (11, [.ref 9, .ref 13, .ref 20, .ref 25, .ref 39, .ref 45, .ref 55, .ref 56, .int (nI 0), .int (nI 200000), .ref 57, .ref 58, .ref 61]))) 62 (.inl (1, 103, .inl (fun _ => 0)))) 15 = .inl (0, 8, .inl (fun _ => 0)) := (hz_mne (hz_mne (hz_mne (hz_mne c111 (by decide)) (by decide)) (by decide)) (by decide))
  have f16 : (va_up (va_up (va_up (va_up M7 8 (.inr (11, [.ref 9, .ref 13, .ref 20, .ref 25, .ref 39, .ref 45, .ref 55, .ref 56, .int (nI 0), .int (nI 200000), .ref 57, .ref 58, .null]))) 61 (.inl (0, 113, .inl (fun _ => 0)))) 8 (.inr (11, [.ref 9, .ref 13, .ref 20, .ref 25, .ref 39, .ref 45, .ref 55, .ref 56, .int (nI 0), .int (nI 200000), .ref 57, .ref 58, .ref 61]))) 62 (.inl (1, 103, .inl (fun _ => 0)))) 16 = .inl (0, 8, .inl (fun _ => 0)) := (hz_mne (hz_mne (hz_mne (hz_mne c112 (by decide)) (by decide)) (by decide)) (by decide))
  have f17 : (va_up (va_up (va_up (va_up M7 8 (.inr (11, [.ref 9, .ref 13, .ref 20, .ref 25, .ref 39, .ref 45, .ref 55, .ref 56, .int (nI 0), .int (nI 200000), .ref 57, .ref 58, .null]))) 61 (.inl (0, 113, .inl (fun _ => 0)))) 8 (.inr (11, [.ref 9, .ref 13, .ref 20, .ref 25, .ref 39, .ref 45, .ref 55, .ref 56, .int (nI 0), .int (nI 200000), .ref 57, .ref 58, .ref 61]))) 62 (.inl (1, 103, .inl (fun _ => 0)))) 17 = .inl (1, 10, .inl (fun _ => 0)) := (hz_mne (hz_mne (hz_mne (hz_mne c113 (by decide)) (by decide)) (by decide)) (by decide))
  have f18 : (va_up (va_up (va_up (va_up M7 8 (.inr (11, [.ref 9, .ref 13, .ref 20, .ref 25, .ref 39, .ref 45, .ref 55, .ref 56, .int (nI 0), .int (nI 200000), .ref 57, .ref 58, .null]))) 61 (.inl (0, 113, .inl (fun _ => 0)))) 8 (.inr (11, [.ref 9, .ref 13, .ref 20, .ref 25, .ref 39, .ref 45, .ref 55, .ref 56, .int (nI 0), .int (nI 200000), .ref 57, .ref 58, .ref 61]))) 62 (.inl (1, 103, .inl (fun _ => 0)))) 18 = .inl (1, 64, .inl (fun _ => 0)) := (hz_mne (hz_mne (hz_mne (hz_mne c114 (by decide)) (by decide)) (by decide)) (by decide))
  have f19 : (va_up (va_up (va_up (va_up M7 8 (.inr (11, [.ref 9, .ref 13, .ref 20, .ref 25, .ref 39, .ref 45, .ref 55, .ref 56, .int (nI 0), .int (nI 200000), .ref 57, .ref 58, .null]))) 61 (.inl (0, 113, .inl (fun _ => 0)))) 8 (.inr (11, [.ref 9, .ref 13, .ref 20, .ref 25, .ref 39, .ref 45, .ref 55, .ref 56, .int (nI 0), .int (nI 200000), .ref 57, .ref 58, .ref 61]))) 62 (.inl (1, 103, .inl (fun _ => 0)))) 19 = .inl (1, 358, .inl (fun _ => 0)) := (hz_mne (hz_mne (hz_mne (hz_mne c115 (by decide)) (by decide)) (by decide)) (by decide))
  have f20 : (va_up (va_up (va_up (va_up M7 8 (.inr (11, [.ref 9, .ref 13, .ref 20, .ref 25, .ref 39, .ref 45, .ref 55, .ref 56, .int (nI 0), .int (nI 200000), .ref 57, .ref 58, .null]))) 61 (.inl (0, 113, .inl (fun _ => 0)))) 8 (.inr (11, [.ref 9, .ref 13, .ref 20, .ref 25, .ref 39, .ref 45, .ref 55, .ref 56, .int (nI 0), .int (nI 200000), .ref 57, .ref 58, .ref 61]))) 62 (.inl (1, 103, .inl (fun _ => 0)))) 20 = .inr (9, [.ref 21, .ref 22, .ref 23, .ref 24, .int (nI 0)]) := (hz_mne (hz_mne (hz_mne (hz_mne c116 (by decide)) (by decide)) (by decide)) (by decide))
  have f21 : (va_up (va_up (va_up (va_up M7 8 (.inr (11, [.ref 9, .ref 13, .ref 20, .ref 25, .ref 39, .ref 45, .ref 55, .ref 56, .int (nI 0), .int (nI 200000), .ref 57, .ref 58, .null]))) 61 (.inl (0, 113, .inl (fun _ => 0)))) 8 (.inr (11, [.ref 9, .ref 13, .ref 20, .ref 25, .ref 39, .ref 45, .ref 55, .ref 56, .int (nI 0), .int (nI 200000), .ref 57, .ref 58, .ref 61]))) 62 (.inl (1, 103, .inl (fun _ => 0)))) 21 = .inl (0, 8, .inl (fun _ => 0)) := (hz_mne (hz_mne (hz_mne (hz_mne c117 (by decide)) (by decide)) (by decide)) (by decide))
  have f22 : (va_up (va_up (va_up (va_up M7 8 (.inr (11, [.ref 9, .ref 13, .ref 20, .ref 25, .ref 39, .ref 45, .ref 55, .ref 56, .int (nI 0), .int (nI 200000), .ref 57, .ref 58, .null]))) 61 (.inl (0, 113, .inl (fun _ => 0)))) 8 (.inr (11, [.ref 9, .ref 13, .ref 20, .ref 25, .ref 39, .ref 45, .ref 55, .ref 56, .int (nI 0), .int (nI 200000), .ref 57, .ref 58, .ref 61]))) 62 (.inl (1, 103, .inl (fun _ => 0)))) 22 = .inl (0, 8, .inl (fun _ => 0)) := (hz_mne (hz_mne (hz_mne (hz_mne c118 (by decide)) (by decide)) (by decide)) (by decide))
  have f23 : (va_up (va_up (va_up (va_up M7 8 (.inr (11, [.ref 9, .ref 13, .ref 20, .ref 25, .ref 39, .ref 45, .ref 55, .ref 56, .int (nI 0), .int (nI 200000), .ref 57, .ref 58, .null]))) 61 (.inl (0, 113, .inl (fun _ => 0)))) 8 (.inr (11, [.ref 9, .ref 13, .ref 20, .ref 25, .ref 39, .ref 45, .ref 55, .ref 56, .int (nI 0), .int (nI 200000), .ref 57, .ref 58, .ref 61]))) 62 (.inl (1, 103, .inl (fun _ => 0)))) 23 = .inl (0, 8, .inl (fun _ => 0)) := (hz_mne (hz_mne (hz_mne (hz_mne c119 (by decide)) (by decide)) (by decide)) (by decide))
  have f24 : (va_up (va_up (va_up (va_up M7 8 (.inr (11, [.ref 9, .ref 13, .ref 20, .ref 25, .ref 39, .ref 45, .ref 55, .ref 56, .int (nI 0), .int (nI 200000), .ref 57, .ref 58, .null]))) 61 (.inl (0, 113, .inl (fun _ => 0)))) 8 (.inr (11, [.ref 9, .ref 13, .ref 20, .ref 25, .ref 39, .ref 45, .ref 55, .ref 56, .int (nI 0), .int (nI 200000), .ref 57, .ref 58, .ref 61]))) 62 (.inl (1, 103, .inl (fun _ => 0)))) 24 = .inl (0, 8, .inl (fun _ => 0)) := (hz_mne (hz_mne (hz_mne (hz_mne c120 (by decide)) (by decide)) (by decide)) (by decide))
  have f25 : (va_up (va_up (va_up (va_up M7 8 (.inr (11, [.ref 9, .ref 13, .ref 20, .ref 25, .ref 39, .ref 45, .ref 55, .ref 56, .int (nI 0), .int (nI 200000), .ref 57, .ref 58, .null]))) 61 (.inl (0, 113, .inl (fun _ => 0)))) 8 (.inr (11, [.ref 9, .ref 13, .ref 20, .ref 25, .ref 39, .ref 45, .ref 55, .ref 56, .int (nI 0), .int (nI 200000), .ref 57, .ref 58, .ref 61]))) 62 (.inl (1, 103, .inl (fun _ => 0)))) 25 = .inr (3, [.ref 9, .ref 13, .ref 20, .ref 26, .ref 34, .ref 35, .ref 36, .ref 37, .ref 38, .int (nI 0), .long 0]) := (hz_mne (hz_mne (hz_mne (hz_mne c121 (by decide)) (by decide)) (by decide)) (by decide))
  have f26 : (va_up (va_up (va_up (va_up M7 8 (.inr (11, [.ref 9, .ref 13, .ref 20, .ref 25, .ref 39, .ref 45, .ref 55, .ref 56, .int (nI 0), .int (nI 200000), .ref 57, .ref 58, .null]))) 61 (.inl (0, 113, .inl (fun _ => 0)))) 8 (.inr (11, [.ref 9, .ref 13, .ref 20, .ref 25, .ref 39, .ref 45, .ref 55, .ref 56, .int (nI 0), .int (nI 200000), .ref 57, .ref 58, .ref 61]))) 62 (.inl (1, 103, .inl (fun _ => 0)))) 26 = .inr (1, [.ref 27, .ref 28, .ref 29, .ref 30, .ref 31, .ref 32, .int (nI 0), .ref 33]) := (hz_mne (hz_mne (hz_mne (hz_mne c122 (by decide)) (by decide)) (by decide)) (by decide))
  have f27 : (va_up (va_up (va_up (va_up M7 8 (.inr (11, [.ref 9, .ref 13, .ref 20, .ref 25, .ref 39, .ref 45, .ref 55, .ref 56, .int (nI 0), .int (nI 200000), .ref 57, .ref 58, .null]))) 61 (.inl (0, 113, .inl (fun _ => 0)))) 8 (.inr (11, [.ref 9, .ref 13, .ref 20, .ref 25, .ref 39, .ref 45, .ref 55, .ref 56, .int (nI 0), .int (nI 200000), .ref 57, .ref 58, .ref 61]))) 62 (.inl (1, 103, .inl (fun _ => 0)))) 27 = .inl (2, 400, .inr (.inl (fun _ => 0))) := (hz_mne (hz_mne (hz_mne (hz_mne c123 (by decide)) (by decide)) (by decide)) (by decide))
  have f28 : (va_up (va_up (va_up (va_up M7 8 (.inr (11, [.ref 9, .ref 13, .ref 20, .ref 25, .ref 39, .ref 45, .ref 55, .ref 56, .int (nI 0), .int (nI 200000), .ref 57, .ref 58, .null]))) 61 (.inl (0, 113, .inl (fun _ => 0)))) 8 (.inr (11, [.ref 9, .ref 13, .ref 20, .ref 25, .ref 39, .ref 45, .ref 55, .ref 56, .int (nI 0), .int (nI 200000), .ref 57, .ref 58, .ref 61]))) 62 (.inl (1, 103, .inl (fun _ => 0)))) 28 = .inl (0, 400, .inl (fun _ => 0)) := (hz_mne (hz_mne (hz_mne (hz_mne c124 (by decide)) (by decide)) (by decide)) (by decide))
  have f29 : (va_up (va_up (va_up (va_up M7 8 (.inr (11, [.ref 9, .ref 13, .ref 20, .ref 25, .ref 39, .ref 45, .ref 55, .ref 56, .int (nI 0), .int (nI 200000), .ref 57, .ref 58, .null]))) 61 (.inl (0, 113, .inl (fun _ => 0)))) 8 (.inr (11, [.ref 9, .ref 13, .ref 20, .ref 25, .ref 39, .ref 45, .ref 55, .ref 56, .int (nI 0), .int (nI 200000), .ref 57, .ref 58, .ref 61]))) 62 (.inl (1, 103, .inl (fun _ => 0)))) 29 = .inl (2, 400, .inr (.inl (fun _ => 0))) := (hz_mne (hz_mne (hz_mne (hz_mne c125 (by decide)) (by decide)) (by decide)) (by decide))
  have f30 : (va_up (va_up (va_up (va_up M7 8 (.inr (11, [.ref 9, .ref 13, .ref 20, .ref 25, .ref 39, .ref 45, .ref 55, .ref 56, .int (nI 0), .int (nI 200000), .ref 57, .ref 58, .null]))) 61 (.inl (0, 113, .inl (fun _ => 0)))) 8 (.inr (11, [.ref 9, .ref 13, .ref 20, .ref 25, .ref 39, .ref 45, .ref 55, .ref 56, .int (nI 0), .int (nI 200000), .ref 57, .ref 58, .ref 61]))) 62 (.inl (1, 103, .inl (fun _ => 0)))) 30 = .inl (2, 400, .inr (.inl (fun _ => 0))) := (hz_mne (hz_mne (hz_mne (hz_mne c126 (by decide)) (by decide)) (by decide)) (by decide))
  have f31 : (va_up (va_up (va_up (va_up M7 8 (.inr (11, [.ref 9, .ref 13, .ref 20, .ref 25, .ref 39, .ref 45, .ref 55, .ref 56, .int (nI 0), .int (nI 200000), .ref 57, .ref 58, .null]))) 61 (.inl (0, 113, .inl (fun _ => 0)))) 8 (.inr (11, [.ref 9, .ref 13, .ref 20, .ref 25, .ref 39, .ref 45, .ref 55, .ref 56, .int (nI 0), .int (nI 200000), .ref 57, .ref 58, .ref 61]))) 62 (.inl (1, 103, .inl (fun _ => 0)))) 31 = .inl (0, 400, .inl (fun _ => 0)) := (hz_mne (hz_mne (hz_mne (hz_mne c127 (by decide)) (by decide)) (by decide)) (by decide))
  have f32 : (va_up (va_up (va_up (va_up M7 8 (.inr (11, [.ref 9, .ref 13, .ref 20, .ref 25, .ref 39, .ref 45, .ref 55, .ref 56, .int (nI 0), .int (nI 200000), .ref 57, .ref 58, .null]))) 61 (.inl (0, 113, .inl (fun _ => 0)))) 8 (.inr (11, [.ref 9, .ref 13, .ref 20, .ref 25, .ref 39, .ref 45, .ref 55, .ref 56, .int (nI 0), .int (nI 200000), .ref 57, .ref 58, .ref 61]))) 62 (.inl (1, 103, .inl (fun _ => 0)))) 32 = .inl (3, 400, .inl (fun _ => 0)) := (hz_mne (hz_mne (hz_mne (hz_mne c128 (by decide)) (by decide)) (by decide)) (by decide))
  have f33 : (va_up (va_up (va_up (va_up M7 8 (.inr (11, [.ref 9, .ref 13, .ref 20, .ref 25, .ref 39, .ref 45, .ref 55, .ref 56, .int (nI 0), .int (nI 200000), .ref 57, .ref 58, .null]))) 61 (.inl (0, 113, .inl (fun _ => 0)))) 8 (.inr (11, [.ref 9, .ref 13, .ref 20, .ref 25, .ref 39, .ref 45, .ref 55, .ref 56, .int (nI 0), .int (nI 200000), .ref 57, .ref 58, .ref 61]))) 62 (.inl (1, 103, .inl (fun _ => 0)))) 33 = .inl (0, 113, .inl (fun _ => 0)) := (hz_mne (hz_mne (hz_mne (hz_mne c129 (by decide)) (by decide)) (by decide)) (by decide))
  have f34 : (va_up (va_up (va_up (va_up M7 8 (.inr (11, [.ref 9, .ref 13, .ref 20, .ref 25, .ref 39, .ref 45, .ref 55, .ref 56, .int (nI 0), .int (nI 200000), .ref 57, .ref 58, .null]))) 61 (.inl (0, 113, .inl (fun _ => 0)))) 8 (.inr (11, [.ref 9, .ref 13, .ref 20, .ref 25, .ref 39, .ref 45, .ref 55, .ref 56, .int (nI 0), .int (nI 200000), .ref 57, .ref 58, .ref 61]))) 62 (.inl (1, 103, .inl (fun _ => 0)))) 34 = .inl (0, 9, .inl (fun _ => 0)) := (hz_mne (hz_mne (hz_mne (hz_mne c130 (by decide)) (by decide)) (by decide)) (by decide))
  have f35 : (va_up (va_up (va_up (va_up M7 8 (.inr (11, [.ref 9, .ref 13, .ref 20, .ref 25, .ref 39, .ref 45, .ref 55, .ref 56, .int (nI 0), .int (nI 200000), .ref 57, .ref 58, .null]))) 61 (.inl (0, 113, .inl (fun _ => 0)))) 8 (.inr (11, [.ref 9, .ref 13, .ref 20, .ref 25, .ref 39, .ref 45, .ref 55, .ref 56, .int (nI 0), .int (nI 200000), .ref 57, .ref 58, .ref 61]))) 62 (.inl (1, 103, .inl (fun _ => 0)))) 35 = .inl (1, 256, .inl (fun _ => 0)) := (hz_mne (hz_mne (hz_mne (hz_mne c131 (by decide)) (by decide)) (by decide)) (by decide))
  have f36 : (va_up (va_up (va_up (va_up M7 8 (.inr (11, [.ref 9, .ref 13, .ref 20, .ref 25, .ref 39, .ref 45, .ref 55, .ref 56, .int (nI 0), .int (nI 200000), .ref 57, .ref 58, .null]))) 61 (.inl (0, 113, .inl (fun _ => 0)))) 8 (.inr (11, [.ref 9, .ref 13, .ref 20, .ref 25, .ref 39, .ref 45, .ref 55, .ref 56, .int (nI 0), .int (nI 200000), .ref 57, .ref 58, .ref 61]))) 62 (.inl (1, 103, .inl (fun _ => 0)))) 36 = .inl (1, 2947, .inl (fun _ => 0)) := (hz_mne (hz_mne (hz_mne (hz_mne c132 (by decide)) (by decide)) (by decide)) (by decide))
  have f37 : (va_up (va_up (va_up (va_up M7 8 (.inr (11, [.ref 9, .ref 13, .ref 20, .ref 25, .ref 39, .ref 45, .ref 55, .ref 56, .int (nI 0), .int (nI 200000), .ref 57, .ref 58, .null]))) 61 (.inl (0, 113, .inl (fun _ => 0)))) 8 (.inr (11, [.ref 9, .ref 13, .ref 20, .ref 25, .ref 39, .ref 45, .ref 55, .ref 56, .int (nI 0), .int (nI 200000), .ref 57, .ref 58, .ref 61]))) 62 (.inl (1, 103, .inl (fun _ => 0)))) 37 = .inl (1, 32, .inl (fun _ => 0)) := (hz_mne (hz_mne (hz_mne (hz_mne c133 (by decide)) (by decide)) (by decide)) (by decide))
  have f38 : (va_up (va_up (va_up (va_up M7 8 (.inr (11, [.ref 9, .ref 13, .ref 20, .ref 25, .ref 39, .ref 45, .ref 55, .ref 56, .int (nI 0), .int (nI 200000), .ref 57, .ref 58, .null]))) 61 (.inl (0, 113, .inl (fun _ => 0)))) 8 (.inr (11, [.ref 9, .ref 13, .ref 20, .ref 25, .ref 39, .ref 45, .ref 55, .ref 56, .int (nI 0), .int (nI 200000), .ref 57, .ref 58, .ref 61]))) 62 (.inl (1, 103, .inl (fun _ => 0)))) 38 = .inl (2, 8, .inr (.inl (fun _ => 0))) := (hz_mne (hz_mne (hz_mne (hz_mne c134 (by decide)) (by decide)) (by decide)) (by decide))
  have f39 : (va_up (va_up (va_up (va_up M7 8 (.inr (11, [.ref 9, .ref 13, .ref 20, .ref 25, .ref 39, .ref 45, .ref 55, .ref 56, .int (nI 0), .int (nI 200000), .ref 57, .ref 58, .null]))) 61 (.inl (0, 113, .inl (fun _ => 0)))) 8 (.inr (11, [.ref 9, .ref 13, .ref 20, .ref 25, .ref 39, .ref 45, .ref 55, .ref 56, .int (nI 0), .int (nI 200000), .ref 57, .ref 58, .ref 61]))) 62 (.inl (1, 103, .inl (fun _ => 0)))) 39 = .inr (2, [.int (nI 0), .ref 40, .ref 41, .ref 42, .int (nI 0), .ref 43, .ref 44]) := (hz_mne (hz_mne (hz_mne (hz_mne c135 (by decide)) (by decide)) (by decide)) (by decide))
  have f40 : (va_up (va_up (va_up (va_up M7 8 (.inr (11, [.ref 9, .ref 13, .ref 20, .ref 25, .ref 39, .ref 45, .ref 55, .ref 56, .int (nI 0), .int (nI 200000), .ref 57, .ref 58, .null]))) 61 (.inl (0, 113, .inl (fun _ => 0)))) 8 (.inr (11, [.ref 9, .ref 13, .ref 20, .ref 25, .ref 39, .ref 45, .ref 55, .ref 56, .int (nI 0), .int (nI 200000), .ref 57, .ref 58, .ref 61]))) 62 (.inl (1, 103, .inl (fun _ => 0)))) 40 = .inl (2, 4, .inr (.inl (fun _ => 0))) := (hz_mne (hz_mne (hz_mne (hz_mne c136 (by decide)) (by decide)) (by decide)) (by decide))
  have f41 : (va_up (va_up (va_up (va_up M7 8 (.inr (11, [.ref 9, .ref 13, .ref 20, .ref 25, .ref 39, .ref 45, .ref 55, .ref 56, .int (nI 0), .int (nI 200000), .ref 57, .ref 58, .null]))) 61 (.inl (0, 113, .inl (fun _ => 0)))) 8 (.inr (11, [.ref 9, .ref 13, .ref 20, .ref 25, .ref 39, .ref 45, .ref 55, .ref 56, .int (nI 0), .int (nI 200000), .ref 57, .ref 58, .ref 61]))) 62 (.inl (1, 103, .inl (fun _ => 0)))) 41 = .inl (0, 4, .inl (fun _ => 0)) := (hz_mne (hz_mne (hz_mne (hz_mne c137 (by decide)) (by decide)) (by decide)) (by decide))
  have f42 : (va_up (va_up (va_up (va_up M7 8 (.inr (11, [.ref 9, .ref 13, .ref 20, .ref 25, .ref 39, .ref 45, .ref 55, .ref 56, .int (nI 0), .int (nI 200000), .ref 57, .ref 58, .null]))) 61 (.inl (0, 113, .inl (fun _ => 0)))) 8 (.inr (11, [.ref 9, .ref 13, .ref 20, .ref 25, .ref 39, .ref 45, .ref 55, .ref 56, .int (nI 0), .int (nI 200000), .ref 57, .ref 58, .ref 61]))) 62 (.inl (1, 103, .inl (fun _ => 0)))) 42 = .inl (2, 4, .inr (.inl (fun _ => 0))) := (hz_mne (hz_mne (hz_mne (hz_mne c138 (by decide)) (by decide)) (by decide)) (by decide))
  have f43 : (va_up (va_up (va_up (va_up M7 8 (.inr (11, [.ref 9, .ref 13, .ref 20, .ref 25, .ref 39, .ref 45, .ref 55, .ref 56, .int (nI 0), .int (nI 200000), .ref 57, .ref 58, .null]))) 61 (.inl (0, 113, .inl (fun _ => 0)))) 8 (.inr (11, [.ref 9, .ref 13, .ref 20, .ref 25, .ref 39, .ref 45, .ref 55, .ref 56, .int (nI 0), .int (nI 200000), .ref 57, .ref 58, .ref 61]))) 62 (.inl (1, 103, .inl (fun _ => 0)))) 43 = .inl (2, 4, .inr (.inl (fun _ => 0))) := (hz_mne (hz_mne (hz_mne (hz_mne c139 (by decide)) (by decide)) (by decide)) (by decide))
  have f44 : (va_up (va_up (va_up (va_up M7 8 (.inr (11, [.ref 9, .ref 13, .ref 20, .ref 25, .ref 39, .ref 45, .ref 55, .ref 56, .int (nI 0), .int (nI 200000), .ref 57, .ref 58, .null]))) 61 (.inl (0, 113, .inl (fun _ => 0)))) 8 (.inr (11, [.ref 9, .ref 13, .ref 20, .ref 25, .ref 39, .ref 45, .ref 55, .ref 56, .int (nI 0), .int (nI 200000), .ref 57, .ref 58, .ref 61]))) 62 (.inl (1, 103, .inl (fun _ => 0)))) 44 = .inl (2, 4, .inr (.inl (fun _ => 0))) := (hz_mne (hz_mne (hz_mne (hz_mne c140 (by decide)) (by decide)) (by decide)) (by decide))
  have f45 : (va_up (va_up (va_up (va_up M7 8 (.inr (11, [.ref 9, .ref 13, .ref 20, .ref 25, .ref 39, .ref 45, .ref 55, .ref 56, .int (nI 0), .int (nI 200000), .ref 57, .ref 58, .null]))) 61 (.inl (0, 113, .inl (fun _ => 0)))) 8 (.inr (11, [.ref 9, .ref 13, .ref 20, .ref 25, .ref 39, .ref 45, .ref 55, .ref 56, .int (nI 0), .int (nI 200000), .ref 57, .ref 58, .ref 61]))) 62 (.inl (1, 103, .inl (fun _ => 0)))) 45 = .inr (5, [.ref 46, .ref 49, .ref 50, .ref 51, .ref 52, .int (nI nn), .ref 54, .int (nI 0), .int (nI 0), .ref 53, .int (nI 0), .int (nI 0), .int (nI 0)]) := (hz_mne (hz_mne (hz_mne (hz_mne c141 (by decide)) (by decide)) (by decide)) (by decide))
  have f46 : (va_up (va_up (va_up (va_up M7 8 (.inr (11, [.ref 9, .ref 13, .ref 20, .ref 25, .ref 39, .ref 45, .ref 55, .ref 56, .int (nI 0), .int (nI 200000), .ref 57, .ref 58, .null]))) 61 (.inl (0, 113, .inl (fun _ => 0)))) 8 (.inr (11, [.ref 9, .ref 13, .ref 20, .ref 25, .ref 39, .ref 45, .ref 55, .ref 56, .int (nI 0), .int (nI 200000), .ref 57, .ref 58, .ref 61]))) 62 (.inl (1, 103, .inl (fun _ => 0)))) 46 = .inr (7, [.ref 47, .ref 48, .int (nI 0)]) := (hz_mne (hz_mne (hz_mne (hz_mne c142 (by decide)) (by decide)) (by decide)) (by decide))
  have f47 : (va_up (va_up (va_up (va_up M7 8 (.inr (11, [.ref 9, .ref 13, .ref 20, .ref 25, .ref 39, .ref 45, .ref 55, .ref 56, .int (nI 0), .int (nI 200000), .ref 57, .ref 58, .null]))) 61 (.inl (0, 113, .inl (fun _ => 0)))) 8 (.inr (11, [.ref 9, .ref 13, .ref 20, .ref 25, .ref 39, .ref 45, .ref 55, .ref 56, .int (nI 0), .int (nI 200000), .ref 57, .ref 58, .ref 61]))) 62 (.inl (1, 103, .inl (fun _ => 0)))) 47 = .inl (1, 40000, .inl (fun _ => 0)) := (hz_mne (hz_mne (hz_mne (hz_mne c143 (by decide)) (by decide)) (by decide)) (by decide))
  have f48 : (va_up (va_up (va_up (va_up M7 8 (.inr (11, [.ref 9, .ref 13, .ref 20, .ref 25, .ref 39, .ref 45, .ref 55, .ref 56, .int (nI 0), .int (nI 200000), .ref 57, .ref 58, .null]))) 61 (.inl (0, 113, .inl (fun _ => 0)))) 8 (.inr (11, [.ref 9, .ref 13, .ref 20, .ref 25, .ref 39, .ref 45, .ref 55, .ref 56, .int (nI 0), .int (nI 200000), .ref 57, .ref 58, .ref 61]))) 62 (.inl (1, 103, .inl (fun _ => 0)))) 48 = .inl (0, 201, .inl (fun _ => 0)) := (hz_mne (hz_mne (hz_mne (hz_mne c144 (by decide)) (by decide)) (by decide)) (by decide))
  have f49 : (va_up (va_up (va_up (va_up M7 8 (.inr (11, [.ref 9, .ref 13, .ref 20, .ref 25, .ref 39, .ref 45, .ref 55, .ref 56, .int (nI 0), .int (nI 200000), .ref 57, .ref 58, .null]))) 61 (.inl (0, 113, .inl (fun _ => 0)))) 8 (.inr (11, [.ref 9, .ref 13, .ref 20, .ref 25, .ref 39, .ref 45, .ref 55, .ref 56, .int (nI 0), .int (nI 200000), .ref 57, .ref 58, .ref 61]))) 62 (.inl (1, 103, .inl (fun _ => 0)))) 49 = .inl (0, 200, .inl (fun _ => 0)) := (hz_mne (hz_mne (hz_mne (hz_mne c145 (by decide)) (by decide)) (by decide)) (by decide))
  have f50 : (va_up (va_up (va_up (va_up M7 8 (.inr (11, [.ref 9, .ref 13, .ref 20, .ref 25, .ref 39, .ref 45, .ref 55, .ref 56, .int (nI 0), .int (nI 200000), .ref 57, .ref 58, .null]))) 61 (.inl (0, 113, .inl (fun _ => 0)))) 8 (.inr (11, [.ref 9, .ref 13, .ref 20, .ref 25, .ref 39, .ref 45, .ref 55, .ref 56, .int (nI 0), .int (nI 200000), .ref 57, .ref 58, .ref 61]))) 62 (.inl (1, 103, .inl (fun _ => 0)))) 50 = .inl (0, 200, .inl (fun _ => 0)) := (hz_mne (hz_mne (hz_mne (hz_mne c146 (by decide)) (by decide)) (by decide)) (by decide))
  have f51 : (va_up (va_up (va_up (va_up M7 8 (.inr (11, [.ref 9, .ref 13, .ref 20, .ref 25, .ref 39, .ref 45, .ref 55, .ref 56, .int (nI 0), .int (nI 200000), .ref 57, .ref 58, .null]))) 61 (.inl (0, 113, .inl (fun _ => 0)))) 8 (.inr (11, [.ref 9, .ref 13, .ref 20, .ref 25, .ref 39, .ref 45, .ref 55, .ref 56, .int (nI 0), .int (nI 200000), .ref 57, .ref 58, .ref 61]))) 62 (.inl (1, 103, .inl (fun _ => 0)))) 51 = .inl (0, 200, .inl (fun _ => 0)) := (hz_mne (hz_mne (hz_mne (hz_mne c147 (by decide)) (by decide)) (by decide)) (by decide))
  have f52 : (va_up (va_up (va_up (va_up M7 8 (.inr (11, [.ref 9, .ref 13, .ref 20, .ref 25, .ref 39, .ref 45, .ref 55, .ref 56, .int (nI 0), .int (nI 200000), .ref 57, .ref 58, .null]))) 61 (.inl (0, 113, .inl (fun _ => 0)))) 8 (.inr (11, [.ref 9, .ref 13, .ref 20, .ref 25, .ref 39, .ref 45, .ref 55, .ref 56, .int (nI 0), .int (nI 200000), .ref 57, .ref 58, .ref 61]))) 62 (.inl (1, 103, .inl (fun _ => 0)))) 52 = .inl (0, 200, .inl (fun _ => 0)) := (hz_mne (hz_mne (hz_mne (hz_mne c148 (by decide)) (by decide)) (by decide)) (by decide))
  have f53 : (va_up (va_up (va_up (va_up M7 8 (.inr (11, [.ref 9, .ref 13, .ref 20, .ref 25, .ref 39, .ref 45, .ref 55, .ref 56, .int (nI 0), .int (nI 200000), .ref 57, .ref 58, .null]))) 61 (.inl (0, 113, .inl (fun _ => 0)))) 8 (.inr (11, [.ref 9, .ref 13, .ref 20, .ref 25, .ref 39, .ref 45, .ref 55, .ref 56, .int (nI 0), .int (nI 200000), .ref 57, .ref 58, .ref 61]))) 62 (.inl (1, 103, .inl (fun _ => 0)))) 53 = .inl (1, 4000, .inl (fun _ => 0)) := (hz_mne (hz_mne (hz_mne (hz_mne c149 (by decide)) (by decide)) (by decide)) (by decide))
  have f54 : (va_up (va_up (va_up (va_up M7 8 (.inr (11, [.ref 9, .ref 13, .ref 20, .ref 25, .ref 39, .ref 45, .ref 55, .ref 56, .int (nI 0), .int (nI 200000), .ref 57, .ref 58, .null]))) 61 (.inl (0, 113, .inl (fun _ => 0)))) 8 (.inr (11, [.ref 9, .ref 13, .ref 20, .ref 25, .ref 39, .ref 45, .ref 55, .ref 56, .int (nI 0), .int (nI 200000), .ref 57, .ref 58, .ref 61]))) 62 (.inl (1, 103, .inl (fun _ => 0)))) 54 = .inl (0, 36, .inl (fun _ => 0)) := (hz_mne (hz_mne (hz_mne (hz_mne c150 (by decide)) (by decide)) (by decide)) (by decide))
  have f55 : (va_up (va_up (va_up (va_up M7 8 (.inr (11, [.ref 9, .ref 13, .ref 20, .ref 25, .ref 39, .ref 45, .ref 55, .ref 56, .int (nI 0), .int (nI 200000), .ref 57, .ref 58, .null]))) 61 (.inl (0, 113, .inl (fun _ => 0)))) 8 (.inr (11, [.ref 9, .ref 13, .ref 20, .ref 25, .ref 39, .ref 45, .ref 55, .ref 56, .int (nI 0), .int (nI 200000), .ref 57, .ref 58, .ref 61]))) 62 (.inl (1, 103, .inl (fun _ => 0)))) 55 = .inl (4, nn, .inr (.inr (.inr (.inr (fun _ => none))))) := (hz_mne (hz_mne (hz_mne (hz_mne c151 (by decide)) (by decide)) (by decide)) (by decide))
  have f56 : (va_up (va_up (va_up (va_up M7 8 (.inr (11, [.ref 9, .ref 13, .ref 20, .ref 25, .ref 39, .ref 45, .ref 55, .ref 56, .int (nI 0), .int (nI 200000), .ref 57, .ref 58, .null]))) 61 (.inl (0, 113, .inl (fun _ => 0)))) 8 (.inr (11, [.ref 9, .ref 13, .ref 20, .ref 25, .ref 39, .ref 45, .ref 55, .ref 56, .int (nI 0), .int (nI 200000), .ref 57, .ref 58, .ref 61]))) 62 (.inl (1, 103, .inl (fun _ => 0)))) 56 = .inl (1, 4000, .inl (fun _ => 0)) := (hz_mne (hz_mne (hz_mne (hz_mne c152 (by decide)) (by decide)) (by decide)) (by decide))
  have f57 : (va_up (va_up (va_up (va_up M7 8 (.inr (11, [.ref 9, .ref 13, .ref 20, .ref 25, .ref 39, .ref 45, .ref 55, .ref 56, .int (nI 0), .int (nI 200000), .ref 57, .ref 58, .null]))) 61 (.inl (0, 113, .inl (fun _ => 0)))) 8 (.inr (11, [.ref 9, .ref 13, .ref 20, .ref 25, .ref 39, .ref 45, .ref 55, .ref 56, .int (nI 0), .int (nI 200000), .ref 57, .ref 58, .ref 61]))) 62 (.inl (1, 103, .inl (fun _ => 0)))) 57 = .inl (1, 1280, .inl (fun _ => 0)) := (hz_mne (hz_mne (hz_mne (hz_mne c153 (by decide)) (by decide)) (by decide)) (by decide))
  have f58 : (va_up (va_up (va_up (va_up M7 8 (.inr (11, [.ref 9, .ref 13, .ref 20, .ref 25, .ref 39, .ref 45, .ref 55, .ref 56, .int (nI 0), .int (nI 200000), .ref 57, .ref 58, .null]))) 61 (.inl (0, 113, .inl (fun _ => 0)))) 8 (.inr (11, [.ref 9, .ref 13, .ref 20, .ref 25, .ref 39, .ref 45, .ref 55, .ref 56, .int (nI 0), .int (nI 200000), .ref 57, .ref 58, .ref 61]))) 62 (.inl (1, 103, .inl (fun _ => 0)))) 58 = .inr (7, [.ref 59, .ref 60, .int (nI 0)]) := (hz_mne (hz_mne (hz_mne (hz_mne g7_0 (by decide)) (by decide)) (by decide)) (by decide))
  have f59 : (va_up (va_up (va_up (va_up M7 8 (.inr (11, [.ref 9, .ref 13, .ref 20, .ref 25, .ref 39, .ref 45, .ref 55, .ref 56, .int (nI 0), .int (nI 200000), .ref 57, .ref 58, .null]))) 61 (.inl (0, 113, .inl (fun _ => 0)))) 8 (.inr (11, [.ref 9, .ref 13, .ref 20, .ref 25, .ref 39, .ref 45, .ref 55, .ref 56, .int (nI 0), .int (nI 200000), .ref 57, .ref 58, .ref 61]))) 62 (.inl (1, 103, .inl (fun _ => 0)))) 59 = .inl (1, 5728, .inl (fun _ => 0)) := (hz_mne (hz_mne (hz_mne (hz_mne g7_1 (by decide)) (by decide)) (by decide)) (by decide))
  have f60 : (va_up (va_up (va_up (va_up M7 8 (.inr (11, [.ref 9, .ref 13, .ref 20, .ref 25, .ref 39, .ref 45, .ref 55, .ref 56, .int (nI 0), .int (nI 200000), .ref 57, .ref 58, .null]))) 61 (.inl (0, 113, .inl (fun _ => 0)))) 8 (.inr (11, [.ref 9, .ref 13, .ref 20, .ref 25, .ref 39, .ref 45, .ref 55, .ref 56, .int (nI 0), .int (nI 200000), .ref 57, .ref 58, .ref 61]))) 62 (.inl (1, 103, .inl (fun _ => 0)))) 60 = .inl (0, 17, .inl (fun _ => 0)) := (hz_mne (hz_mne (hz_mne (hz_mne g7_2 (by decide)) (by decide)) (by decide)) (by decide))
  have f61 : (va_up (va_up (va_up (va_up M7 8 (.inr (11, [.ref 9, .ref 13, .ref 20, .ref 25, .ref 39, .ref 45, .ref 55, .ref 56, .int (nI 0), .int (nI 200000), .ref 57, .ref 58, .null]))) 61 (.inl (0, 113, .inl (fun _ => 0)))) 8 (.inr (11, [.ref 9, .ref 13, .ref 20, .ref 25, .ref 39, .ref 45, .ref 55, .ref 56, .int (nI 0), .int (nI 200000), .ref 57, .ref 58, .ref 61]))) 62 (.inl (1, 103, .inl (fun _ => 0)))) 61 = .inl (0, 113, .inl (fun _ => 0)) := (hz_mne (hz_mne (va_up_self _ _ _) (by decide)) (by decide))
  have f62 : (va_up (va_up (va_up (va_up M7 8 (.inr (11, [.ref 9, .ref 13, .ref 20, .ref 25, .ref 39, .ref 45, .ref 55, .ref 56, .int (nI 0), .int (nI 200000), .ref 57, .ref 58, .null]))) 61 (.inl (0, 113, .inl (fun _ => 0)))) 8 (.inr (11, [.ref 9, .ref 13, .ref 20, .ref 25, .ref 39, .ref 45, .ref 55, .ref 56, .int (nI 0), .int (nI 200000), .ref 57, .ref 58, .ref 61]))) 62 (.inl (1, 103, .inl (fun _ => 0)))) 62 = .inl (1, 103, .inl (fun _ => 0)) := (va_up_self _ _ _)
  refine c_i11_b hn6 ⟨f8, f55, ⟨⟨_, _, f25⟩, ⟨_, f34⟩, ⟨_, f35⟩, ⟨_, f36⟩, ⟨_, f37⟩, ⟨_, f38⟩, ⟨[], coR_0 f26 f27 f28 f29 f30 f31 f32 f33⟩, ⟨f9, f13, by decide⟩, ⟨⟨_, f10⟩, ⟨_, f11⟩, ⟨_, f12⟩, ⟨_, f14⟩, ⟨_, f15⟩, ⟨_, f16⟩, ⟨_, f17⟩, ⟨_, f18⟩, _, f19⟩, ⟨_, f20, ⟨_, f21⟩, ⟨_, f22⟩, ⟨_, f23⟩, _, f24, fun c => absurd c (by decide)⟩⟩, ⟨f45, ⟨rwR_0 f46 f47 f48, _, _, _, _, f49, f50, f51, f52, fun k hk => absurd hk (Nat.not_lt_zero k)⟩, _, f54, fun k hk => ⟨rfl, Nat.zero_le 9⟩⟩, f53, rwR_0 f58 f59 f60, f61, f57, f56, ⟨f39, Nat.zero_le _, Nat.zero_le _, ⟨_, _, _, f40, f41, f42, fun k hk => absurd hk (Nat.not_lt_zero k)⟩, _, _, f43, f44, fun k hk => absurd hk (Nat.not_lt_zero k)⟩, f62⟩
