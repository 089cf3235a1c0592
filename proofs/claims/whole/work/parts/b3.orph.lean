/-! the reference: orphans -/
/-- a block, its state -/
abbrev or_O : Type := by_L × Nat
def orL (ol : List or_O) (k : Nat) : or_O := ol.getD k ([], 0)
def oeX (fa : Nat → Nat → Int32) (a : Nat) (x : or_O) : Prop := fa 64 a = nI x.1.length ∧ fa 65 a = nI x.2 ∧ isA (fa 66) (32 * a) (haS x.1) ∧ isA (fa 63) (4000 * a) x.1
def orX (fa : Nat → Nat → Int32) (v : Nat) (ol : List or_O) : Prop := fa 67 v = nI ol.length ∧ ∀ k, k < ol.length → oeX fa (8 * v + k) (orL ol k)
def orW (ol : List or_O) : Prop := ol.length ≤ 8 ∧ ∀ k, k < ol.length → blW (orL ol k).1 ∧ (orL ol k).2 < 1000
/-- one entry alone was written -/
def oeO (M M2 : hz_M) (B a : Nat) : Prop := (∀ x, ¬ x = a → fA M2 B 64 x = fA M B 64 x) ∧ (∀ x, ¬ x = a → fA M2 B 65 x = fA M B 65 x) ∧ (∀ x, x < 32 * a ∨ 32 * a + 32 ≤ x → fA M2 B 66 x = fA M B 66 x) ∧ ∀ x, x < 4000 * a ∨ 4000 * a + 4000 ≤ x → fA M2 B 63 x = fA M B 63 x
theorem oeO.rf {M : hz_M} {B a : Nat} : oeO M M B a := ⟨fun _ _ => rfl, fun _ _ => rfl, fun _ _ => rfl, fun _ _ => rfl⟩
theorem oeO.tr {M M2 M3 : hz_M} {B a : Nat} (h : oeO M M2 B a) (h2 : oeO M2 M3 B a) : oeO M M3 B a := ⟨fun x q => (h2.1 x q).trans (h.1 x q), fun x q => (h2.2.1 x q).trans (h.2.1 x q), fun x q => (h2.2.2.1 x q).trans (h.2.2.1 x q), fun x q => (h2.2.2.2 x q).trans (h.2.2.2 x q)⟩
theorem oeO.x {M M2 : hz_M} {B a b : Nat} {x : or_O} (h : oeO M M2 B a) (hb : ¬ b = a) (hx : x.1.length ≤ 4000) (q : oeX (fA M B) b x) : oeX (fA M2 B) b x := by
  obtain ⟨q1, q2, q3, q4⟩ := q
  refine ⟨(h.1 b hb).trans q1, (h.2.1 b hb).trans q2, isA_c q3 (fun j hj => h.2.2.1 _ ?_), isA_c q4 (fun j hj => h.2.2.2 _ ?_)⟩
  · rw [haS_len] at hj; omega
  · omega
theorem oeO.g {M M2 : hz_M} {B v j : Nat} {ks os : List Nat} (h : oeO M M2 B (8 * v + j)) (hj : j < 8) (f : mfr B ks os M M2) (ho : agS.all (fun p => [63, 64, 65, 66].elem p.1 || !os.elem p.1) = true) (hl : agL.all (fun p => !os.elem p.1) = true) : agV M M2 B v := by
  intro w hw
  refine agN.of f (fun p hp e => ?_) (fun p hp q => by have r := List.all_eq_true.mp hl p hp; rw [q] at r; cases r)
  have r := List.all_eq_true.mp ho p hp
  rw [e] at r
  have hm : p.1 ∈ [63, 64, 65, 66] := List.elem_iff.mp (by simpa using r)
  have hs : agS.all (fun p => decide ((p.1 = 63 → p.2 = 32000) ∧ (p.1 = 64 → p.2 = 8) ∧ (p.1 = 65 → p.2 = 8) ∧ (p.1 = 66 → p.2 = 256))) = true := by decide
  obtain ⟨s1, s2, s3, s4⟩ := of_decide_eq_true (List.all_eq_true.mp hs p hp)
  simp only [List.mem_cons, List.not_mem_nil, or_false] at hm
  intro i hi
  have q := ag_out hw hi
  rcases hm with c | c | c | c
  · have c2 := s1 c; rw [c2] at hi q ⊢; rw [c]; exact h.2.2.2 _ (by omega)
  · have c2 := s2 c; rw [c2] at hi q ⊢; rw [c]; exact h.1 _ (by omega)
  · have c2 := s3 c; rw [c2] at hi q ⊢; rw [c]; exact h.2.1 _ (by omega)
  · have c2 := s4 c; rw [c2] at hi q ⊢; rw [c]; exact h.2.2.1 _ (by omega)
theorem orL_er {ol : List or_O} {k j : Nat} : orL (ol.eraseIdx k) j = if j < k then orL ol j else orL ol (j + 1) := by
  unfold orL
  rw [List.getD_eq_getElem?_getD, List.getElem?_eraseIdx]
  split
  · rw [List.getD_eq_getElem?_getD]
  · rw [List.getD_eq_getElem?_getD]
theorem orL_app {ol : List or_O} {t : or_O} {j : Nat} (h : j < ol.length) : orL (ol ++ [t]) j = orL ol j := by
  unfold orL
  rw [List.getD_eq_getElem?_getD, List.getD_eq_getElem?_getD, List.getElem?_append_left h]
theorem orL_last {ol : List or_O} {t : or_O} : orL (ol ++ [t]) ol.length = t := by
  unfold orL
  rw [List.getD_eq_getElem?_getD, List.getElem?_append_right (Nat.le_refl _), Nat.sub_self]
  rfl
theorem or_erl {ol : List or_O} {k : Nat} (h : k < ol.length) : (ol.eraseIdx k).length = ol.length - 1 := by rw [List.length_eraseIdx, if_pos h]
theorem orW.er {ol : List or_O} (h : orW ol) {k : Nat} (hk : k < ol.length) : orW (ol.eraseIdx k) := by
  have h1 := h.1
  refine ⟨by rw [or_erl hk]; omega, fun j hj => ?_⟩
  rw [or_erl hk] at hj
  rw [orL_er]
  split
  · exact h.2 j (by omega)
  · exact h.2 (j + 1) (by omega)
theorem orX.mf {M M2 : hz_M} {B v : Nat} {ol : List or_O} {ks os : List Nat} (h : orX (fA M B) v ol) (f : mfr B ks os M M2) (ho : [63, 64, 65, 66, 67].all (fun o => !os.elem o) = true) : orX (fA M2 B) v ol := by
  have hall := List.all_eq_true.mp ho
  have ne : ∀ o, o ∈ [63, 64, 65, 66, 67] → os.elem o = false := fun o h9 => by have q := hall o h9; cases e : os.elem o with
    | false => rfl
    | true => rw [e] at q; cases q
  unfold orX oeX
  rw [fA_m f (by decide) (ne 63 (by decide)), fA_m f (by decide) (ne 64 (by decide)), fA_m f (by decide) (ne 65 (by decide)), fA_m f (by decide) (ne 66 (by decide)), fA_m f (by decide) (ne 67 (by decide))]
  exact h
theorem orX.ag {M M2 : hz_M} {B w : Nat} {ol : List or_O} (h : orX (fA M B) w ol) (g : agN M M2 B w) (hw : orW ol) : orX (fA M2 B) w ol := by
  have h8 := hw.1
  refine ⟨(g.s1 67 (by decide)).trans h.1, fun k hk => ?_⟩
  obtain ⟨a1, a2, a3, a4⟩ := h.2 k hk
  have hl := (hw.2 k hk).1.len
  refine ⟨(g.a 64 8 (by decide) (j := k) (by omega)).trans a1, (g.a 65 8 (by decide) (j := k) (by omega)).trans a2, isA_c a3 (fun j hj => ?_), isA_c a4 (fun j hj => ?_)⟩
  · rw [haS_len] at hj
    rw [show 32 * (8 * w + k) + j = 256 * w + (32 * k + j) by omega]
    exact g.a 66 256 (by decide) (by omega)
  · rw [show 4000 * (8 * w + k) + j = 32000 * w + (4000 * k + j) by omega]
    exact g.a 63 32000 (by decide) (by omega)
set_option maxHeartbeats 4000000 in
set_option maxRecDepth 100000 in
theorem c_dO_b {κ : hz_C} {z : Nat} {M0 : hz_M} {B : Nat} (hO_ : md_O M0 B) (hE0 : mdE M0 B) (h8 : 8 ≤ B) (hz : B + 88 ≤ z) {v : Nat} (hv : v < 6) {j k0 : Nat} (hj : j < 7) {x : or_O} (hx0 : oeX (fA M0 B) (8 * v + j + 1) x) (hxl : x.1.length ≤ 4000) {P : hz_P} (K : ∀ M, mfr B [] [63, 64, 65, 66] M0 M → mdE M B → oeO M0 M B (8 * v + j) → oeX (fA M B) (8 * v + j) x → hz_W κ xX12_dropOrphan 0 0 0 P 0 0 157 [(3, .int (nI j)), (0, .ref B), (1, .int (nI v)), (2, .int (nI k0))] [] z M) : ∀ k i M, k = x.1.length - i → i ≤ x.1.length → mfr B [] [63, 64, 65, 66] M0 M → mdE M B → oeO M0 M B (8 * v + j) → fA M B 64 (8 * v + j) = nI x.1.length → fA M B 65 (8 * v + j) = nI x.2 → isA (fA M B 66) (32 * (8 * v + j)) (haS x.1) → (∀ q, q < i → fA M B 63 (4000 * (8 * v + j) + q) = lf x.1 q) → hz_W κ xX12_dropOrphan 0 0 0 P 0 0 109 [(5, .int (nI i)), (4, .int (nI (8 * v + j))), (3, .int (nI j)), (0, .ref B), (1, .int (nI v)), (2, .int (nI k0))] [] z M := by
  intro k
  induction k using Nat.strongRecOn with
  | ind k ih =>
  intro i M hk hi hfr hE ho h64 h65 h66 h63
  obtain ⟨fs, hO, hF⟩ := id hfr.2.1
  have hx := ho.x (b := 8 * v + j + 1) (by omega) hxl hx0
  refine hz_bytes hE.a63 (by omega) (by omega) (fun hby => ?_)
  refine hz_iload (pc := 109) 0 (hz_dec kX12_dropOrphan 69 rfl) rfl ?_
  refine hz_aloadn (pc := 111) 3 (hz_dec kX12_dropOrphan 70 rfl) rfl ?_
  refine hz_get (pc := 112) (v := .ref (B + 64)) (hz_dec kX12_dropOrphan 71 rfl) fo_X12_212 hO h8 (by omega) (hF.2 73 (by decide) (by decide)) ?_
  refine hz_iload (pc := 115) 1 (hz_dec kX12_dropOrphan 72 rfl) rfl ?_
  refine hz_iald (pc := 117) (j := 8 * v + j) (hz_dec kX12_dropOrphan 73 rfl) hE.a64 (by omega) (by omega) rfl (by omega) (by decide) ?_
  refine hz_eqi (pc := 118) h64 ?_
  refine hz_n_ge (pc := 118) (tgt := 157) (hz_dec kX12_dropOrphan 74 rfl) (by decide) (by omega) (by omega) (fun h1 => ?_) (fun h1 => ?_)
  · skip
    have e : i = x.1.length := by omega
    refine hz_pick (pc := 157) [2, 3, 4, 5] rfl ?_
    exact K M hfr hE ho ⟨h64, h65, h66, fun q hq => h63 q (by omega)⟩
  · skip
    refine hz_aloadn (pc := 121) 3 (hz_dec kX12_dropOrphan 75 rfl) rfl ?_
    refine hz_get (pc := 122) (v := .ref (B + 63)) (hz_dec kX12_dropOrphan 76 rfl) fo_X12_209 hO h8 (by omega) (hF.2 72 (by decide) (by decide)) ?_
    refine hz_sipush (pc := 125) (v := nI 4000) (hz_dec kX12_dropOrphan 77 rfl) (by decide) ?_
    refine hz_iload (pc := 128) 1 (hz_dec kX12_dropOrphan 78 rfl) rfl ?_
    refine hz_mulN (pc := 130) (hz_dec kX12_dropOrphan 79 rfl) ?_
    refine hz_iload (pc := 131) 0 (hz_dec kX12_dropOrphan 80 rfl) rfl ?_
    refine hz_addN (pc := 133) (hz_dec kX12_dropOrphan 81 rfl) ?_
    refine hz_aloadn (pc := 134) 3 (hz_dec kX12_dropOrphan 82 rfl) rfl ?_
    refine hz_get (pc := 135) (v := .ref (B + 63)) (hz_dec kX12_dropOrphan 83 rfl) fo_X12_209 hO h8 (by omega) (hF.2 72 (by decide) (by decide)) ?_
    refine hz_sipush (pc := 138) (v := nI 4000) (hz_dec kX12_dropOrphan 84 rfl) (by decide) ?_
    refine hz_iload (pc := 141) 1 (hz_dec kX12_dropOrphan 85 rfl) rfl ?_
    refine hz_iconst (pc := 143) (v := nI 1) (hz_dec kX12_dropOrphan 86 rfl) (by decide) ?_
    refine hz_addN (pc := 144) (hz_dec kX12_dropOrphan 87 rfl) ?_
    refine hz_mulN (pc := 145) (hz_dec kX12_dropOrphan 88 rfl) ?_
    refine hz_iload (pc := 146) 0 (hz_dec kX12_dropOrphan 89 rfl) rfl ?_
    refine hz_addN (pc := 148) (hz_dec kX12_dropOrphan 90 rfl) ?_
    refine hz_bald (pc := 149) (j := (4000 * ((8 * v + j) + 1)) + i) (hz_dec kX12_dropOrphan 91 rfl) hE.a63 (by omega) (by omega) rfl (by omega) (by decide) ?_
    refine hz_bast (pc := 150) (j := (4000 * (8 * v + j)) + i) (hz_dec kX12_dropOrphan 92 rfl) hE.a63 (by omega) (by omega) rfl (by omega) (by decide) ?_
    refine hz_incN (pc := 151) (i := 5) (lo2 := [(5, .int (nI (i + 1))), (4, .int (nI (8 * v + j))), (3, .int (nI j)), (0, .ref B), (1, .int (nI v)), (2, .int (nI k0))]) 0 (hz_dec kX12_dropOrphan 93 rfl) rfl (by decide) rfl ?_
    refine hz_goto (pc := 154) (tgt := 109) (hz_dec kX12_dropOrphan 94 rfl) (by decide) ?_
    refine hz_pick (pc := 109) [0, 1, 2, 3, 4, 5] rfl ?_
    have e9 : ∀ o, ¬ o = 63 → fA (va_up M (B + 63) (.inl (1, 192000, .inl (upd (fA M B 63) ((4000 * (8 * v + j)) + i) (((fA M B 63) ((4000 * ((8 * v + j) + 1)) + i)).toInt8.toInt32))))) B o = fA M B o := fun o h9 => fA_c (va_up_ne _ _ (by omega))
    have p63 : fA (va_up M (B + 63) (.inl (1, 192000, .inl (upd (fA M B 63) ((4000 * (8 * v + j)) + i) (((fA M B 63) ((4000 * ((8 * v + j) + 1)) + i)).toInt8.toInt32))))) B 63 = upd (fA M B 63) ((4000 * (8 * v + j)) + i) (((fA M B 63) ((4000 * ((8 * v + j) + 1)) + i)).toInt8.toInt32) := fA_of (va_up_self _ _ _)
    refine ih (x.1.length - (i + 1)) (by omega) (i + 1) _ rfl (by omega) (hfr.upA (o := 63) rfl (by decide)) (hE.upA (by decide)) (ho.tr ⟨fun y hy => by rw [e9 64 (by decide)], fun y hy => by rw [e9 65 (by decide)], fun y hy => by rw [e9 66 (by decide)], fun y hy => by rw [p63, upd_o (by omega)]⟩) (by rw [e9 64 (by decide)]; exact h64) (by rw [e9 65 (by decide)]; exact h65) (by rw [e9 66 (by decide)]; exact h66) ?_
    rw [p63]
    intro q hq
    rcases (show q = i ∨ q < i by omega) with e | c
    · rw [e, upd_s, hby _ (by omega)]; exact hx.2.2.2 i h1
    · rw [upd_o (by omega)]; exact h63 q c
set_option maxHeartbeats 4000000 in
set_option maxRecDepth 100000 in
theorem c_dO_h {κ : hz_C} {z : Nat} {M0 : hz_M} {B : Nat} (hO_ : md_O M0 B) (hE0 : mdE M0 B) (h8 : 8 ≤ B) (hz : B + 88 ≤ z) {v : Nat} (hv : v < 6) {j k0 : Nat} (hj : j < 7) {x : or_O} (hx0 : oeX (fA M0 B) (8 * v + j + 1) x) (hxl : x.1.length ≤ 4000) {P : hz_P} (K : ∀ M, mfr B [] [63, 64, 65, 66] M0 M → mdE M B → oeO M0 M B (8 * v + j) → oeX (fA M B) (8 * v + j) x → hz_W κ xX12_dropOrphan 0 0 0 P 0 0 157 [(3, .int (nI j)), (0, .ref B), (1, .int (nI v)), (2, .int (nI k0))] [] z M) : ∀ k i M, k = 32 - i → i ≤ 32 → mfr B [] [63, 64, 65, 66] M0 M → mdE M B → oeO M0 M B (8 * v + j) → fA M B 64 (8 * v + j) = nI x.1.length → fA M B 65 (8 * v + j) = nI x.2 → (∀ q, q < i → fA M B 66 (32 * (8 * v + j) + q) = lf (haS x.1) q) → hz_W κ xX12_dropOrphan 0 0 0 P 0 0 65 [(5, .int (nI i)), (4, .int (nI (8 * v + j))), (3, .int (nI j)), (0, .ref B), (1, .int (nI v)), (2, .int (nI k0))] [] z M := by
  intro k
  induction k using Nat.strongRecOn with
  | ind k ih =>
  intro i M hk hi hfr hE ho h64 h65 h66
  obtain ⟨fs, hO, hF⟩ := id hfr.2.1
  have hx := ho.x (b := 8 * v + j + 1) (by omega) hxl hx0
  have h32 := haS_len x.1
  refine hz_bytes hE.a66 (by omega) (by omega) (fun hby => ?_)
  refine hz_iload (pc := 65) 0 (hz_dec kX12_dropOrphan 44 rfl) rfl ?_
  refine hz_bipush (pc := 67) (v := nI 32) (hz_dec kX12_dropOrphan 45 rfl) (by decide) ?_
  refine hz_n_ge (pc := 69) (tgt := 106) (hz_dec kX12_dropOrphan 46 rfl) (by decide) (by omega) (by omega) (fun h1 => ?_) (fun h1 => ?_)
  · skip
    have e : i = 32 := by omega
    refine hz_iconst (pc := 106) (v := nI 0) (hz_dec kX12_dropOrphan 67 rfl) (by decide) ?_
    refine hz_istore (pc := 107) (i := 5) (lo2 := [(5, .int (nI 0)), (4, .int (nI (8 * v + j))), (3, .int (nI j)), (0, .ref B), (1, .int (nI v)), (2, .int (nI k0))]) (hz_dec kX12_dropOrphan 68 rfl) (by decide) rfl ?_
    refine hz_pick (pc := 109) [0, 1, 2, 3, 4, 5] rfl ?_
    exact c_dO_b hO_ hE0 h8 hz hv hj hx0 hxl K x.1.length 0 M rfl (Nat.zero_le _) hfr hE ho h64 h65 (fun q hq => h66 q (by omega)) (fun q hq => absurd hq (by omega))
  · skip
    refine hz_aloadn (pc := 72) 3 (hz_dec kX12_dropOrphan 47 rfl) rfl ?_
    refine hz_get (pc := 73) (v := .ref (B + 66)) (hz_dec kX12_dropOrphan 48 rfl) fo_X12_218 hO h8 (by omega) (hF.2 75 (by decide) (by decide)) ?_
    refine hz_bipush (pc := 76) (v := nI 32) (hz_dec kX12_dropOrphan 49 rfl) (by decide) ?_
    refine hz_iload (pc := 78) 1 (hz_dec kX12_dropOrphan 50 rfl) rfl ?_
    refine hz_mulN (pc := 80) (hz_dec kX12_dropOrphan 51 rfl) ?_
    refine hz_iload (pc := 81) 0 (hz_dec kX12_dropOrphan 52 rfl) rfl ?_
    refine hz_addN (pc := 83) (hz_dec kX12_dropOrphan 53 rfl) ?_
    refine hz_aloadn (pc := 84) 3 (hz_dec kX12_dropOrphan 54 rfl) rfl ?_
    refine hz_get (pc := 85) (v := .ref (B + 66)) (hz_dec kX12_dropOrphan 55 rfl) fo_X12_218 hO h8 (by omega) (hF.2 75 (by decide) (by decide)) ?_
    refine hz_bipush (pc := 88) (v := nI 32) (hz_dec kX12_dropOrphan 56 rfl) (by decide) ?_
    refine hz_iload (pc := 90) 1 (hz_dec kX12_dropOrphan 57 rfl) rfl ?_
    refine hz_iconst (pc := 92) (v := nI 1) (hz_dec kX12_dropOrphan 58 rfl) (by decide) ?_
    refine hz_addN (pc := 93) (hz_dec kX12_dropOrphan 59 rfl) ?_
    refine hz_mulN (pc := 94) (hz_dec kX12_dropOrphan 60 rfl) ?_
    refine hz_iload (pc := 95) 0 (hz_dec kX12_dropOrphan 61 rfl) rfl ?_
    refine hz_addN (pc := 97) (hz_dec kX12_dropOrphan 62 rfl) ?_
    refine hz_bald (pc := 98) (j := (32 * ((8 * v + j) + 1)) + i) (hz_dec kX12_dropOrphan 63 rfl) hE.a66 (by omega) (by omega) rfl (by omega) (by decide) ?_
    refine hz_bast (pc := 99) (j := (32 * (8 * v + j)) + i) (hz_dec kX12_dropOrphan 64 rfl) hE.a66 (by omega) (by omega) rfl (by omega) (by decide) ?_
    refine hz_incN (pc := 100) (i := 5) (lo2 := [(5, .int (nI (i + 1))), (4, .int (nI (8 * v + j))), (3, .int (nI j)), (0, .ref B), (1, .int (nI v)), (2, .int (nI k0))]) 0 (hz_dec kX12_dropOrphan 65 rfl) rfl (by decide) rfl ?_
    refine hz_goto (pc := 103) (tgt := 65) (hz_dec kX12_dropOrphan 66 rfl) (by decide) ?_
    refine hz_pick (pc := 65) [0, 1, 2, 3, 4, 5] rfl ?_
    have e9 : ∀ o, ¬ o = 66 → fA (va_up M (B + 66) (.inl (1, 1536, .inl (upd (fA M B 66) ((32 * (8 * v + j)) + i) (((fA M B 66) ((32 * ((8 * v + j) + 1)) + i)).toInt8.toInt32))))) B o = fA M B o := fun o h9 => fA_c (va_up_ne _ _ (by omega))
    have p66 : fA (va_up M (B + 66) (.inl (1, 1536, .inl (upd (fA M B 66) ((32 * (8 * v + j)) + i) (((fA M B 66) ((32 * ((8 * v + j) + 1)) + i)).toInt8.toInt32))))) B 66 = upd (fA M B 66) ((32 * (8 * v + j)) + i) (((fA M B 66) ((32 * ((8 * v + j) + 1)) + i)).toInt8.toInt32) := fA_of (va_up_self _ _ _)
    refine ih (32 - (i + 1)) (by omega) (i + 1) _ rfl (by omega) (hfr.upA (o := 66) rfl (by decide)) (hE.upA (by decide)) (ho.tr ⟨fun y hy => by rw [e9 64 (by decide)], fun y hy => by rw [e9 65 (by decide)], fun y hy => by rw [p66, upd_o (by omega)], fun y hy => by rw [e9 63 (by decide)]⟩) (by rw [e9 64 (by decide)]; exact h64) (by rw [e9 65 (by decide)]; exact h65) ?_
    rw [p66]
    intro q hq
    rcases (show q = i ∨ q < i by omega) with e | c
    · rw [e, upd_s, hby _ (by omega)]; exact hx.2.2.1 i (by omega)
    · rw [upd_o (by omega)]; exact h66 q c
set_option maxHeartbeats 4000000 in
set_option maxRecDepth 100000 in
theorem c_dO_o {κ : hz_C} {z : Nat} {M0 : hz_M} {B : Nat} (hO_ : md_O M0 B) (hE0 : mdE M0 B) (h8 : 8 ≤ B) (hz : B + 88 ≤ z) {v : Nat} (hv : v < 6) {ol : List or_O} (hol : orX (fA M0 B) v ol) (how : orW ol) {k0 : Nat} (hk0 : k0 < ol.length) : ∀ k j M, k = ol.length - 1 - j → k0 ≤ j → j ≤ ol.length - 1 → mfr B [] [63, 64, 65, 66, 67] M0 M → mdE M B → agV M0 M B v → fA M B 67 v = nI (ol.length - 1) → (∀ q, q < j → oeX (fA M B) (8 * v + q) (orL (ol.eraseIdx k0) q)) → (∀ q, j ≤ q → q < ol.length → oeX (fA M B) (8 * v + q) (orL ol q)) → hz_W κ xX12_dropOrphan 0 0 0 (fun r z2 M2 => none = r ∧ z = z2 ∧ mfr B [] [63, 64, 65, 66, 67] M0 M2 ∧ mdE M2 B ∧ agV M0 M2 B v ∧ orX (fA M2 B) v (ol.eraseIdx k0)) 0 0 12 [(3, .int (nI j)), (0, .ref B), (1, .int (nI v)), (2, .int (nI k0))] [] z M := by
  intro k
  induction k using Nat.strongRecOn with
  | ind k ih =>
  intro j M hk hkj hj hfr hE hag h67 hlo hhi
  obtain ⟨fs, hO, hF⟩ := id hfr.2.1
  have hl8 := how.1
  refine hz_iloadn (pc := 12) 0 (hz_dec kX12_dropOrphan 10 rfl) rfl ?_
  refine hz_aloadn (pc := 13) 1 (hz_dec kX12_dropOrphan 11 rfl) rfl ?_
  refine hz_get (pc := 14) (v := .ref (B + 67)) (hz_dec kX12_dropOrphan 12 rfl) fo_X12_221 hO h8 (by omega) (hF.2 76 (by decide) (by decide)) ?_
  refine hz_iloadn (pc := 17) 2 (hz_dec kX12_dropOrphan 13 rfl) rfl ?_
  refine hz_iald (pc := 18) (j := v) (hz_dec kX12_dropOrphan 14 rfl) hE.a67 (by omega) (by omega) rfl (by omega) (by decide) ?_
  refine hz_eqi (pc := 19) h67 ?_
  refine hz_n_ge (pc := 19) (tgt := 163) (hz_dec kX12_dropOrphan 15 rfl) (by decide) (by omega) (by omega) (fun h1 => ?_) (fun h1 => ?_)
  · skip
    have e : j = ol.length - 1 := by omega
    exact hz_vret (pc := 163) (hz_dec kX12_dropOrphan 97 rfl) rfl ⟨rfl, rfl, hfr, hE, hag, by rw [or_erl hk0]; exact h67, fun q hq => hlo q (by rw [or_erl hk0] at hq; omega)⟩
  · skip
    have hxn := hhi (j + 1) (by omega) (by omega)
    have hxl := (how.2 (j + 1) (by omega)).1.len
    rw [← Nat.add_assoc] at hxn
    refine hz_bipush (pc := 22) (v := nI 8) (hz_dec kX12_dropOrphan 16 rfl) (by decide) ?_
    refine hz_iloadn (pc := 24) 2 (hz_dec kX12_dropOrphan 17 rfl) rfl ?_
    refine hz_mulN (pc := 25) (hz_dec kX12_dropOrphan 18 rfl) ?_
    refine hz_iloadn (pc := 26) 0 (hz_dec kX12_dropOrphan 19 rfl) rfl ?_
    refine hz_addN (pc := 27) (hz_dec kX12_dropOrphan 20 rfl) ?_
    refine hz_istore (pc := 28) (i := 4) (lo2 := [(4, .int (nI ((8 * v) + j))), (3, .int (nI j)), (0, .ref B), (1, .int (nI v)), (2, .int (nI k0))]) (hz_dec kX12_dropOrphan 21 rfl) (by decide) rfl ?_
    refine hz_aloadn (pc := 30) 2 (hz_dec kX12_dropOrphan 22 rfl) rfl ?_
    refine hz_get (pc := 31) (v := .ref (B + 64)) (hz_dec kX12_dropOrphan 23 rfl) fo_X12_212 hO h8 (by omega) (hF.2 73 (by decide) (by decide)) ?_
    refine hz_iload (pc := 34) 0 (hz_dec kX12_dropOrphan 24 rfl) rfl ?_
    refine hz_aloadn (pc := 36) 2 (hz_dec kX12_dropOrphan 25 rfl) rfl ?_
    refine hz_get (pc := 37) (v := .ref (B + 64)) (hz_dec kX12_dropOrphan 26 rfl) fo_X12_212 hO h8 (by omega) (hF.2 73 (by decide) (by decide)) ?_
    refine hz_iload (pc := 40) 0 (hz_dec kX12_dropOrphan 27 rfl) rfl ?_
    refine hz_iconst (pc := 42) (v := nI 1) (hz_dec kX12_dropOrphan 28 rfl) (by decide) ?_
    refine hz_addN (pc := 43) (hz_dec kX12_dropOrphan 29 rfl) ?_
    refine hz_iald (pc := 44) (j := ((8 * v) + j) + 1) (hz_dec kX12_dropOrphan 30 rfl) hE.a64 (by omega) (by omega) rfl (by omega) (by decide) ?_
    refine hz_eqi (pc := 45) hxn.1 ?_
    refine hz_iast (pc := 45) (j := (8 * v) + j) (hz_dec kX12_dropOrphan 31 rfl) hE.a64 (by omega) (by omega) rfl (by omega) (by decide) ?_
    refine hz_aloadn (pc := 46) 2 (hz_dec kX12_dropOrphan 32 rfl) rfl ?_
    refine hz_get (pc := 47) (v := .ref (B + 65)) (hz_dec kX12_dropOrphan 33 rfl) fo_X12_215 (hz_mne hO (by omega)) h8 (by omega) (hF.2 74 (by decide) (by decide)) ?_
    refine hz_iload (pc := 50) 0 (hz_dec kX12_dropOrphan 34 rfl) rfl ?_
    refine hz_aloadn (pc := 52) 2 (hz_dec kX12_dropOrphan 35 rfl) rfl ?_
    refine hz_get (pc := 53) (v := .ref (B + 65)) (hz_dec kX12_dropOrphan 36 rfl) fo_X12_215 (hz_mne hO (by omega)) h8 (by omega) (hF.2 74 (by decide) (by decide)) ?_
    refine hz_iload (pc := 56) 0 (hz_dec kX12_dropOrphan 37 rfl) rfl ?_
    refine hz_iconst (pc := 58) (v := nI 1) (hz_dec kX12_dropOrphan 38 rfl) (by decide) ?_
    refine hz_addN (pc := 59) (hz_dec kX12_dropOrphan 39 rfl) ?_
    refine hz_iald (pc := 60) (j := ((8 * v) + j) + 1) (hz_dec kX12_dropOrphan 40 rfl) (hz_mne hE.a65 (by omega)) (by omega) (by omega) rfl (by omega) (by decide) ?_
    refine hz_eqi (pc := 61) hxn.2.1 ?_
    refine hz_iast (pc := 61) (j := (8 * v) + j) (hz_dec kX12_dropOrphan 41 rfl) (hz_mne hE.a65 (by omega)) (by omega) (by omega) rfl (by omega) (by decide) ?_
    refine hz_iconst (pc := 62) (v := nI 0) (hz_dec kX12_dropOrphan 42 rfl) (by decide) ?_
    refine hz_istore (pc := 63) (i := 5) (lo2 := [(5, .int (nI 0)), (4, .int (nI ((8 * v) + j))), (3, .int (nI j)), (0, .ref B), (1, .int (nI v)), (2, .int (nI k0))]) (hz_dec kX12_dropOrphan 43 rfl) (by decide) rfl ?_
    refine hz_pick (pc := 65) [0, 1, 2, 3, 4, 5] rfl ?_
    have p64 : fA (va_up (va_up M (B + 64) (.inl (0, 48, .inl (upd (fA M B 64) ((8 * v) + j) ((nI ((orL ol (j + 1)).1.length))))))) (B + 65) (.inl (0, 48, .inl (upd (fA M B 65) ((8 * v) + j) ((nI ((orL ol (j + 1)).2))))))) B 64 = upd (fA M B 64) ((8 * v) + j) ((nI ((orL ol (j + 1)).1.length))) := fA_of (hz_mne (va_up_self _ _ _) (by omega))
    have p65 : fA (va_up (va_up M (B + 64) (.inl (0, 48, .inl (upd (fA M B 64) ((8 * v) + j) ((nI ((orL ol (j + 1)).1.length))))))) (B + 65) (.inl (0, 48, .inl (upd (fA M B 65) ((8 * v) + j) ((nI ((orL ol (j + 1)).2))))))) B 65 = upd (fA M B 65) ((8 * v) + j) ((nI ((orL ol (j + 1)).2))) := fA_of (va_up_self _ _ _)
    have e9 : ∀ o, ¬ o = 64 → ¬ o = 65 → fA (va_up (va_up M (B + 64) (.inl (0, 48, .inl (upd (fA M B 64) ((8 * v) + j) ((nI ((orL ol (j + 1)).1.length))))))) (B + 65) (.inl (0, 48, .inl (upd (fA M B 65) ((8 * v) + j) ((nI ((orL ol (j + 1)).2))))))) B o = fA M B o := fun o h1 h2 => fA_c (hz_mne (hz_mne rfl (by omega)) (by omega))
    have hm9 : mfr B [] [63, 64, 65, 66] M (va_up (va_up M (B + 64) (.inl (0, 48, .inl (upd (fA M B 64) ((8 * v) + j) ((nI ((orL ol (j + 1)).1.length))))))) (B + 65) (.inl (0, 48, .inl (upd (fA M B 65) ((8 * v) + j) ((nI ((orL ol (j + 1)).2))))))) := ((mfr.rf ⟨fs, hO, hF⟩).upA (o := 64) rfl (by decide)).upA (o := 65) rfl (by decide)
    have ho9 : oeO M (va_up (va_up M (B + 64) (.inl (0, 48, .inl (upd (fA M B 64) ((8 * v) + j) ((nI ((orL ol (j + 1)).1.length))))))) (B + 65) (.inl (0, 48, .inl (upd (fA M B 65) ((8 * v) + j) ((nI ((orL ol (j + 1)).2))))))) B (8 * v + j) := ⟨fun y hy => by rw [p64, upd_o hy], fun y hy => by rw [p65, upd_o hy], fun y hy => by rw [e9 66 (by decide) (by decide)], fun y hy => by rw [e9 63 (by decide) (by decide)]⟩
    refine c_dO_h (M0 := M) hfr.2.1 hE h8 hz hv (by omega) hxn (by omega) (fun M2 hfr2 hE2 ho2 hx2 => ?_) 32 0 _ rfl (by omega) hm9 ((hE.upA (by decide)).upA (by decide)) ho9 (by rw [p64, upd_s]) (by rw [p65, upd_s]) (fun q hq => absurd hq (by omega))
    refine hz_incN (pc := 157) (i := 3) (lo2 := [(3, .int (nI (j + 1))), (0, .ref B), (1, .int (nI v)), (2, .int (nI k0))]) 0 (hz_dec kX12_dropOrphan 95 rfl) rfl (by decide) rfl ?_
    refine hz_goto (pc := 160) (tgt := 12) (hz_dec kX12_dropOrphan 96 rfl) (by decide) ?_
    refine hz_pick (pc := 12) [0, 1, 2, 3] rfl ?_
    refine ih (ol.length - 1 - (j + 1)) (by omega) (j + 1) M2 rfl (by omega) (by omega) (hfr.tr (hfr2.mono rfl rfl)) hE2 (hag.tr (ho2.g (by omega) hfr2 rfl rfl)) (by rw [fA_m hfr2 (by decide) rfl]; exact h67) (fun q hq => ?_) (fun q hq hq2 => ?_)
    · rcases (show q = j ∨ q < j by omega) with e | c
      · rw [e, orL_er, if_neg (by omega)]; exact hx2
      · have r := hlo q c; refine ho2.x (by omega) ?_ r; have r2 := ((how.er hk0).2 q (by rw [or_erl hk0]; omega)).1.len; omega
    · have r := hhi q (by omega) hq2; refine ho2.x (by omega) ?_ r; have r2 := (how.2 q hq2).1.len; omega
set_option maxHeartbeats 4000000 in
set_option maxRecDepth 100000 in
theorem c_dO {κ : hz_C} {z : Nat} {M : hz_M} {B : Nat} (hO_ : md_O M B) (hE0 : mdE M B) (h8 : 8 ≤ B) (hz : B + 88 ≤ z) {v : Nat} (hv : v < 6) {ol : List or_O} (hol : orX (fA M B) v ol) (how : orW ol) {k0 : Nat} (hk0 : k0 < ol.length) : hz_Mt κ xX12_dropOrphan 0 0 0 [.ref B, .int (nI v), .int (nI k0)] z M (fun r z2 M2 => none = r ∧ z = z2 ∧ mfr B [] [63, 64, 65, 66, 67] M M2 ∧ mdE M2 B ∧ agV M M2 B v ∧ orX (fA M2 B) v (ol.eraseIdx k0)) := by
  refine hz_ent (lo := [(0, .ref B), (1, .int (nI v)), (2, .int (nI k0))]) (by decide) (Nat.le_of_ble_eq_true rfl) rfl ?_
  obtain ⟨fs, hO, hF⟩ := id hO_
  have hl8 := how.1
  refine hz_aloadn (pc := 0) 0 (hz_dec kX12_dropOrphan 0 rfl) rfl ?_
  refine hz_get (pc := 1) (v := .ref (B + 67)) (hz_dec kX12_dropOrphan 1 rfl) fo_X12_221 hO h8 (by omega) (hF.2 76 (by decide) (by decide)) ?_
  refine hz_iloadn (pc := 4) 1 (hz_dec kX12_dropOrphan 2 rfl) rfl ?_
  refine hz_dup2 (pc := 5) (hz_dec kX12_dropOrphan 3 rfl) rfl rfl ?_
  refine hz_iald (pc := 6) (j := v) (hz_dec kX12_dropOrphan 4 rfl) hE0.a67 (by omega) (by omega) rfl (by omega) (by decide) ?_
  refine hz_eqi (pc := 7) hol.1 ?_
  refine hz_iconst (pc := 7) (v := nI 1) (hz_dec kX12_dropOrphan 5 rfl) (by decide) ?_
  refine hz_subN (pc := 8) (hz_dec kX12_dropOrphan 6 rfl) (by omega) ?_
  refine hz_iast (pc := 9) (j := v) (hz_dec kX12_dropOrphan 7 rfl) hE0.a67 (by omega) (by omega) rfl (by omega) (by decide) ?_
  refine hz_iloadn (pc := 10) 2 (hz_dec kX12_dropOrphan 8 rfl) rfl ?_
  refine hz_istoren (pc := 11) (i := 3) (lo2 := [(3, .int (nI k0)), (0, .ref B), (1, .int (nI v)), (2, .int (nI k0))]) (hz_dec kX12_dropOrphan 9 rfl) rfl (by decide) rfl ?_
  refine hz_pick (pc := 12) [0, 1, 2, 3] rfl ?_
  have e9 : ∀ o, ¬ o = 67 → fA (va_up M (B + 67) (.inl (0, 6, .inl (upd (fA M B 67) v ((nI ((ol.length) - 1))))))) B o = fA M B o := fun o h9 => fA_c (va_up_ne _ _ (by omega))
  have ex : ∀ q, q < ol.length → oeX (fA (va_up M (B + 67) (.inl (0, 6, .inl (upd (fA M B 67) v ((nI ((ol.length) - 1))))))) B) (8 * v + q) (orL ol q) := fun q hq => by unfold oeX; rw [e9 63 (by decide), e9 64 (by decide), e9 65 (by decide), e9 66 (by decide)]; exact hol.2 q hq
  refine c_dO_o hO_ hE0 h8 hz hv hol how hk0 (ol.length - 1 - k0) k0 _ rfl (Nat.le_refl _) (by omega) ((mfr.rf ⟨fs, hO, hF⟩).upA (o := 67) rfl (by decide)) (hE0.upA (by decide)) (agV.rf.upA (s := 1) (by decide) (by decide) (fun x hx => upd_o (by omega))) (by rw [fA_of (va_up_self _ _ _), upd_s]) (fun q hq => by rw [orL_er, if_pos hq]; exact ex q (by omega)) (fun q _ hq => ex q hq)
