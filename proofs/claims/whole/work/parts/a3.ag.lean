/-! the reference: what belongs to one node -/
def agS : List (Nat × Nat) := [(16, 1), (17, 12288), (18, 1), (19, 1), (20, 1), (21, 1), (22, 1), (23, 1), (24, 128), (25, 128), (26, 128), (27, 128), (28, 128), (29, 128), (30, 4096), (31, 1152), (32, 128), (51, 12288), (54, 5760), (55, 16), (58, 1), (63, 32000), (64, 8), (65, 8), (66, 256), (67, 1)]
def agL : List (Nat × Nat) := [(33, 1024), (56, 16), (57, 16)]
def agA (M M2 : hz_M) (B w o s : Nat) : Prop := ∀ j, j < s → fA M2 B o (s * w + j) = fA M B o (s * w + j)
def agB (M M2 : hz_M) (B w o s : Nat) : Prop := ∀ j, j < s → fL M2 B o (s * w + j) = fL M B o (s * w + j)
/-- the arrays agree where node w has its part -/
def agN (M M2 : hz_M) (B w : Nat) : Prop := (∀ p ∈ agS, agA M M2 B w p.1 p.2) ∧ ∀ p ∈ agL, agB M M2 B w p.1 p.2
theorem agN.rf {M : hz_M} {B w : Nat} : agN M M B w := ⟨fun _ _ _ _ => rfl, fun _ _ _ _ => rfl⟩
theorem agN.tr {M M2 M3 : hz_M} {B w : Nat} (h : agN M M2 B w) (h2 : agN M2 M3 B w) : agN M M3 B w := ⟨fun p hp j hj => (h2.1 p hp j hj).trans (h.1 p hp j hj), fun p hp j hj => (h2.2 p hp j hj).trans (h.2 p hp j hj)⟩
theorem agN.of {M M2 : hz_M} {B w : Nat} {ks os : List Nat} (f : mfr B ks os M M2) (hs : ∀ p ∈ agS, os.elem p.1 = true → agA M M2 B w p.1 p.2) (hl : ∀ p ∈ agL, os.elem p.1 = true → agB M M2 B w p.1 p.2) : agN M M2 B w := by
  have z1 : agS.all (fun p => decide (¬ p.1 = 0)) = true := by decide
  have z2 : agL.all (fun p => decide (¬ p.1 = 0)) = true := by decide
  refine ⟨fun p hp => ?_, fun p hp => ?_⟩
  · cases e : os.elem p.1 with
    | true => exact hs p hp e
    | false =>
      intro j _
      rw [fA_c (f.at p.1 (of_decide_eq_true (List.all_eq_true.mp z1 p hp)) e)]
  · cases e : os.elem p.1 with
    | true => exact hl p hp e
    | false =>
      intro j _
      rw [fL_c (f.at p.1 (of_decide_eq_true (List.all_eq_true.mp z2 p hp)) e)]
theorem agN.mf {M M2 : hz_M} {B w : Nat} {ks os : List Nat} (f : mfr B ks os M M2) (ho : agS.all (fun p => !os.elem p.1) = true) (hl : agL.all (fun p => !os.elem p.1) = true) : agN M M2 B w :=
  agN.of f (fun p hp q => by have r := List.all_eq_true.mp ho p hp; rw [q] at r; cases r) (fun p hp q => by have r := List.all_eq_true.mp hl p hp; rw [q] at r; cases r)
/-- one array of a node was written -/
theorem agN.upA {M M2 : hz_M} {B w o t n s : Nat} {g : Nat → Int32} (h : agN M M2 B w) (ho : agS.all (fun p => decide (p.1 = o → p.2 = s)) = true) (hl : agL.all (fun p => decide (¬ p.1 = o)) = true) (hg : ∀ j, j < s → g (s * w + j) = fA M2 B o (s * w + j)) : agN M (va_up M2 (B + o) (.inl (t, n, .inl g))) B w := by
  refine h.tr ⟨fun p hp j hj => ?_, fun p hp j hj => ?_⟩
  · have r := of_decide_eq_true (List.all_eq_true.mp ho p hp)
    by_cases c : p.1 = o
    · have e := r c
      rw [c, e, fA_of (va_up_self _ _ _)]
      exact hg j (by omega)
    · rw [fA_c (va_up_ne _ _ (by omega))]
  · have r := of_decide_eq_true (List.all_eq_true.mp hl p hp)
    rw [fL_c (va_up_ne _ _ (by omega))]
theorem agN.upL {M M2 : hz_M} {B w o n s : Nat} {g : Nat → Int64} (h : agN M M2 B w) (ho : agL.all (fun p => decide (p.1 = o → p.2 = s)) = true) (hl : agS.all (fun p => decide (¬ p.1 = o)) = true) (hg : ∀ j, j < s → g (s * w + j) = fL M2 B o (s * w + j)) : agN M (va_up M2 (B + o) (.inl (2, n, .inr (.inl g)))) B w := by
  refine h.tr ⟨fun p hp j hj => ?_, fun p hp j hj => ?_⟩
  · have r := of_decide_eq_true (List.all_eq_true.mp hl p hp)
    rw [fA_c (va_up_ne _ _ (by omega))]
  · have r := of_decide_eq_true (List.all_eq_true.mp ho p hp)
    by_cases c : p.1 = o
    · have e := r c
      rw [c, e, fL_of (va_up_self _ _ _)]
      exact hg j (by omega)
    · rw [fL_c (va_up_ne _ _ (by omega))]
/-- nothing of the other nodes changed -/
def agV (M M2 : hz_M) (B v : Nat) : Prop := ∀ w, w ≠ v → agN M M2 B w
theorem agV.rf {M : hz_M} {B v : Nat} : agV M M B v := fun _ _ => agN.rf
theorem agV.tr {M M2 M3 : hz_M} {B v : Nat} (h : agV M M2 B v) (h2 : agV M2 M3 B v) : agV M M3 B v := fun w hw => (h w hw).tr (h2 w hw)
theorem agV.mf {M M2 : hz_M} {B v : Nat} {ks os : List Nat} (f : mfr B ks os M M2) (ho : agS.all (fun p => !os.elem p.1) = true) (hl : agL.all (fun p => !os.elem p.1) = true) : agV M M2 B v := fun _ _ => agN.mf f ho hl
theorem ag_out {s v w j : Nat} (hw : w ≠ v) (hj : j < s) : s * w + j < s * v ∨ s * v + s ≤ s * w + j := by
  rcases Nat.lt_or_gt_of_ne hw with c | c
  · have q := Nat.mul_le_mul_left s c
    rw [Nat.mul_succ] at q
    omega
  · have q := Nat.mul_le_mul_left s c
    rw [Nat.mul_succ] at q
    omega
theorem agV.upA {M M2 : hz_M} {B v o t n s : Nat} {g : Nat → Int32} (h : agV M M2 B v) (ho : agS.all (fun p => decide (p.1 = o → p.2 = s)) = true) (hl : agL.all (fun p => decide (¬ p.1 = o)) = true) (hg : ∀ x, x < s * v ∨ s * v + s ≤ x → g x = fA M2 B o x) : agV M (va_up M2 (B + o) (.inl (t, n, .inl g))) B v := fun w hw => (h w hw).upA ho hl (fun _ hj => hg _ (ag_out hw hj))
theorem agV.upL {M M2 : hz_M} {B v o n s : Nat} {g : Nat → Int64} (h : agV M M2 B v) (ho : agL.all (fun p => decide (p.1 = o → p.2 = s)) = true) (hl : agS.all (fun p => decide (¬ p.1 = o)) = true) (hg : ∀ x, x < s * v ∨ s * v + s ≤ x → g x = fL M2 B o x) : agV M (va_up M2 (B + o) (.inl (2, n, .inr (.inl g)))) B v := fun w hw => (h w hw).upL ho hl (fun _ hj => hg _ (ag_out hw hj))
/-- an array that belongs to no node -/
theorem agV.upZ {M M2 : hz_M} {B v o : Nat} {e : va_E} (h : agV M M2 B v) (ho : agS.all (fun p => decide (¬ p.1 = o)) = true) (hl : agL.all (fun p => decide (¬ p.1 = o)) = true) : agV M (va_up M2 (B + o) e) B v := fun w hw => (h w hw).tr ⟨fun p hp j _ => by
    have r := of_decide_eq_true (List.all_eq_true.mp ho p hp)
    rw [fA_c (va_up_ne _ _ (by omega))], fun p hp j _ => by
    have r := of_decide_eq_true (List.all_eq_true.mp hl p hp)
    rw [fL_c (va_up_ne _ _ (by omega))]⟩
theorem upd_o {f : Nat → Int32} {i x : Nat} {v : Int32} (h : ¬ x = i) : upd f i v x = f x := by simp only [upd]; rw [if_neg h]
theorem upd_s {f : Nat → Int32} {i : Nat} {v : Int32} : upd f i v i = v := by simp only [upd]; exact if_pos trivial
theorem updL_o {f : Nat → Int64} {i x : Nat} {v : Int64} (h : ¬ x = i) : vp_updL f i v x = f x := by simp only [vp_updL]; rw [if_neg h]
theorem updL_s {f : Nat → Int64} {i : Nat} {v : Int64} : vp_updL f i v i = v := by simp only [vp_updL]; exact if_pos trivial
theorem agN.s1 {M M2 : hz_M} {B w : Nat} (h : agN M M2 B w) (o : Nat) (ho : (o, 1) ∈ agS) : fA M2 B o w = fA M B o w := by
  have q := h.1 _ ho 0 (show 0 < 1 by decide)
  simpa using q
theorem agN.a {M M2 : hz_M} {B w : Nat} (h : agN M M2 B w) (o s : Nat) (ho : (o, s) ∈ agS) {j : Nat} (hj : j < s) : fA M2 B o (s * w + j) = fA M B o (s * w + j) := h.1 _ ho j hj
theorem agN.l {M M2 : hz_M} {B w : Nat} (h : agN M M2 B w) (o s : Nat) (ho : (o, s) ∈ agL) {j : Nat} (hj : j < s) : fL M2 B o (s * w + j) = fL M B o (s * w + j) := h.2 _ ho j hj
theorem rvX.ag {M M2 : hz_M} {B w nb : Nat} {en : List en_E} (h : rvX (fA M B) w nb en) (g : agN M M2 B w) (hnb : nb ≤ 128) (he : en.length = nb) : rvX (fA M2 B) w nb en := by
  intro y hy
  obtain ⟨a, b⟩ := h y hy
  refine ⟨fun hy2 => ?_, fun hy2 => absurd hy2 (by omega)⟩
  rw [g.a 26 128 (by decide) (j := y) (by omega), g.a 27 128 (by decide) (j := y) (by omega), g.a 28 128 (by decide) (j := y) (by omega), g.a 29 128 (by decide) (j := y) (by omega)]
  exact a hy2
theorem poX.ag {M M2 : hz_M} {B w : Nat} {po : List po_P} (h : poX (fA M B) (fL M B) w po) (g : agN M M2 B w) (hpw : poW po) : poX (fA M2 B) (fL M2 B) w po := by
  refine ⟨(g.s1 58 (by decide)).trans h.1, fun k hk => ?_⟩
  obtain ⟨a1, a2, a3, a4⟩ := h.2 k hk
  have hpl := hpw.1
  have plen := txW_len (hpw.2 k hk).1
  rw [g.a 55 16 (by decide) (j := k) (by omega), g.l 56 16 (by decide) (j := k) (by omega), g.l 57 16 (by decide) (j := k) (by omega)]
  refine ⟨a1, a2, a3, isA_c a4 (fun j hj => ?_)⟩
  rw [show 360 * (16 * w + k) + j = 5760 * w + (360 * k + j) by omega]
  exact g.a 54 5760 (by decide) (by omega)
theorem nbX.ag {M M2 : hz_M} {B w tip : Nat} {bl : List bk_B} (h : nbX (fA M B) (fL M B) w bl tip) (g : agN M M2 B w) (hnb : bl.length ≤ 128) (hbx : blX bl) (h34 : fA M2 B 34 = fA M B 34) : nbX (fA M2 B) (fL M2 B) w bl tip := by
  refine ⟨(g.s1 20 (by decide)).trans h.1, (g.s1 21 (by decide)).trans h.2.1, fun k hk => ?_⟩
  obtain ⟨a1, a2, a3, a4, a5, a6⟩ := h.2.2 k hk
  have hN8 := (hbx k hk).f.2.2.2.2.1
  rw [h34, g.a 25 128 (by decide) (j := k) (by omega), g.a 32 128 (by decide) (j := k) (by omega), g.a 24 128 (by decide) (j := k) (by omega)]
  refine ⟨a1, isA_c a2 (fun j hj => ?_), ?_, a4, fun j hj => ?_, ?_⟩
  · rw [haS_len] at hj
    rw [show 32 * (128 * w + k) + j = 4096 * w + (32 * k + j) by omega]
    exact g.a 30 4096 (by decide) (by omega)
  · rw [← a3]
    refine bg_c 9 (fun j hj => ?_)
    rw [show 9 * (128 * w + k) + j = 1152 * w + (9 * k + j) by omega]
    exact g.a 31 1152 (by decide) (by omega)
  · rw [← a5 j hj, show 8 * (128 * w + k) + j = 1024 * w + (8 * k + j) by omega]
    exact g.l 33 1024 (by decide) (by omega)
  · rcases a6 with a | ⟨p, p1, p2, p3⟩
    · exact Or.inl a
    · refine Or.inr ⟨p, p1, p2, isA_c p3 (fun j hj => ?_)⟩
      rw [show 12288 * w + p + 2 + j = 12288 * w + (p + 2 + j) by omega]
      exact g.a 51 12288 (by decide) (by omega)
set_option maxHeartbeats 4000000 in
set_option maxRecDepth 100000 in
theorem c_goDown {κ : hz_C} {z : Nat} {M : hz_M} {B : Nat} (hO_ : md_O M B) (hE : mdE M B) (h8 : 8 ≤ B) (hz : B + 88 ≤ z) {v : Nat} (hv : v < 6) : hz_Mt κ xX12_goDown 0 0 0 [.ref B, .int (nI v)] z M (fun r z2 M2 => none = r ∧ z = z2 ∧ mfr B [] [16, 19, 58, 67] M M2 ∧ mdE M2 B ∧ fA M2 B 16 v = 0 ∧ fA M2 B 58 v = 0 ∧ fA M2 B 67 v = 0 ∧ fA M2 B 19 v = -1 ∧ agV M M2 B v) := by
  refine hz_ent (lo := [(0, .ref B), (1, .int (nI v))]) (by decide) (Nat.le_of_ble_eq_true rfl) rfl ?_
  obtain ⟨fs, hO, hF⟩ := id hO_
  refine hz_aloadn (pc := 0) 0 (hz_dec kX12_goDown 0 rfl) rfl ?_
  refine hz_get (pc := 1) (v := .ref (B + 16)) (hz_dec kX12_goDown 1 rfl) fo_X12_57 hO h8 (by omega) (hF.2 18 (by decide) (by decide)) ?_
  refine hz_iloadn (pc := 4) 1 (hz_dec kX12_goDown 2 rfl) rfl ?_
  refine hz_iconst (pc := 5) (v := nI 0) (hz_dec kX12_goDown 3 rfl) (by decide) ?_
  refine hz_zast (pc := 6) (j := v) (hz_dec kX12_goDown 4 rfl) hE.a16 (by omega) (by omega) rfl (by omega) (by decide) (Or.inl rfl) ?_
  refine hz_aloadn (pc := 7) 0 (hz_dec kX12_goDown 5 rfl) rfl ?_
  refine hz_get (pc := 8) (v := .ref (B + 58)) (hz_dec kX12_goDown 6 rfl) fo_X12_193 (hz_mne hO (by omega)) h8 (by omega) (hF.2 67 (by decide) (by decide)) ?_
  refine hz_iloadn (pc := 11) 1 (hz_dec kX12_goDown 7 rfl) rfl ?_
  refine hz_iconst (pc := 12) (v := nI 0) (hz_dec kX12_goDown 8 rfl) (by decide) ?_
  refine hz_iast (pc := 13) (j := v) (hz_dec kX12_goDown 9 rfl) (hz_mne hE.a58 (by omega)) (by omega) (by omega) rfl (by omega) (by decide) ?_
  refine hz_aloadn (pc := 14) 0 (hz_dec kX12_goDown 10 rfl) rfl ?_
  refine hz_get (pc := 15) (v := .ref (B + 67)) (hz_dec kX12_goDown 11 rfl) fo_X12_221 (hz_mne (hz_mne hO (by omega)) (by omega)) h8 (by omega) (hF.2 76 (by decide) (by decide)) ?_
  refine hz_iloadn (pc := 18) 1 (hz_dec kX12_goDown 12 rfl) rfl ?_
  refine hz_iconst (pc := 19) (v := nI 0) (hz_dec kX12_goDown 13 rfl) (by decide) ?_
  refine hz_iast (pc := 20) (j := v) (hz_dec kX12_goDown 14 rfl) (hz_mne (hz_mne hE.a67 (by omega)) (by omega)) (by omega) (by omega) rfl (by omega) (by decide) ?_
  refine hz_aloadn (pc := 21) 0 (hz_dec kX12_goDown 15 rfl) rfl ?_
  refine hz_get (pc := 22) (v := .ref (B + 19)) (hz_dec kX12_goDown 16 rfl) fo_X12_68 (hz_mne (hz_mne (hz_mne hO (by omega)) (by omega)) (by omega)) h8 (by omega) (hF.2 21 (by decide) (by decide)) ?_
  refine hz_iloadn (pc := 25) 1 (hz_dec kX12_goDown 17 rfl) rfl ?_
  refine hz_iconst (pc := 26) (v := (-1)) (hz_dec kX12_goDown 18 rfl) (by decide) ?_
  refine hz_iast (pc := 27) (j := v) (hz_dec kX12_goDown 19 rfl) (hz_mne (hz_mne (hz_mne hE.a19 (by omega)) (by omega)) (by omega)) (by omega) (by omega) rfl (by omega) (by decide) ?_
  have p16 : (va_up (va_up (va_up (va_up M (B + 16) (.inl (3, 6, .inl (upd (fA M B 16) v ((nI (0))))))) (B + 58) (.inl (0, 6, .inl (upd (fA M B 58) v ((nI (0))))))) (B + 67) (.inl (0, 6, .inl (upd (fA M B 67) v ((nI (0))))))) (B + 19) (.inl (0, 6, .inl (upd (fA M B 19) v (((-1))))))) (B + 16) = .inl (3, 6, .inl (upd (fA M B 16) v ((nI (0))))) := (hz_mne (hz_mne (hz_mne (va_up_self _ _ _) (by omega)) (by omega)) (by omega))
  have p58 : (va_up (va_up (va_up (va_up M (B + 16) (.inl (3, 6, .inl (upd (fA M B 16) v ((nI (0))))))) (B + 58) (.inl (0, 6, .inl (upd (fA M B 58) v ((nI (0))))))) (B + 67) (.inl (0, 6, .inl (upd (fA M B 67) v ((nI (0))))))) (B + 19) (.inl (0, 6, .inl (upd (fA M B 19) v (((-1))))))) (B + 58) = .inl (0, 6, .inl (upd (fA M B 58) v ((nI (0))))) := (hz_mne (hz_mne (va_up_self _ _ _) (by omega)) (by omega))
  have p67 : (va_up (va_up (va_up (va_up M (B + 16) (.inl (3, 6, .inl (upd (fA M B 16) v ((nI (0))))))) (B + 58) (.inl (0, 6, .inl (upd (fA M B 58) v ((nI (0))))))) (B + 67) (.inl (0, 6, .inl (upd (fA M B 67) v ((nI (0))))))) (B + 19) (.inl (0, 6, .inl (upd (fA M B 19) v (((-1))))))) (B + 67) = .inl (0, 6, .inl (upd (fA M B 67) v ((nI (0))))) := (hz_mne (va_up_self _ _ _) (by omega))
  have p19 : (va_up (va_up (va_up (va_up M (B + 16) (.inl (3, 6, .inl (upd (fA M B 16) v ((nI (0))))))) (B + 58) (.inl (0, 6, .inl (upd (fA M B 58) v ((nI (0))))))) (B + 67) (.inl (0, 6, .inl (upd (fA M B 67) v ((nI (0))))))) (B + 19) (.inl (0, 6, .inl (upd (fA M B 19) v (((-1))))))) (B + 19) = .inl (0, 6, .inl (upd (fA M B 19) v (((-1))))) := (va_up_self _ _ _)
  refine hz_vret (pc := 28) (hz_dec kX12_goDown 20 rfl) rfl ⟨rfl, rfl, (((((mfr.rf ⟨fs, hO, hF⟩).upA (o := 16) rfl (by decide)).upA (o := 58) rfl (by decide)).upA (o := 67) rfl (by decide)).upA (o := 19) rfl (by decide)), ((((hE.upA (by decide)).upA (by decide)).upA (by decide)).upA (by decide)), ?_, ?_, ?_, ?_, ?_⟩
  · rw [fA_of p16]; simp only [upd]; exact if_pos trivial
  · rw [fA_of p58]; simp only [upd]; exact if_pos trivial
  · rw [fA_of p67]; simp only [upd]; exact if_pos trivial
  · rw [fA_of p19]; simp only [upd]; exact if_pos trivial
  · exact (((agV.rf.upA (s := 1) (by decide) (by decide) (fun x hx => upd_o (by omega))).upA (s := 1) (by decide) (by decide) (fun x hx => (upd_o (by omega)).trans (by rw [fA_c (hz_mne rfl (by omega))]))).upA (s := 1) (by decide) (by decide) (fun x hx => (upd_o (by omega)).trans (by rw [fA_c (hz_mne (hz_mne rfl (by omega)) (by omega))]))).upA (s := 1) (by decide) (by decide) (fun x hx => (upd_o (by omega)).trans (by rw [fA_c (hz_mne (hz_mne (hz_mne rfl (by omega)) (by omega)) (by omega))]))
