/-! the reference: keys -/
/-- nothing but the places B + o changes -/
def frl (B : Nat) (os : List Nat) (M M2 : hz_M) : Prop := ∀ a, (∀ o ∈ os, a ≠ B + o) → M2 a = M a
theorem frl.at {B : Nat} {os : List Nat} {M M2 : hz_M} (h : frl B os M M2) (c : Nat) (hc : os.elem c = false) : M2 (B + c) = M (B + c) := by
  refine h _ (fun o ho e => ?_)
  have : c = o := by omega
  subst this
  rw [List.elem_eq_mem, decide_eq_false_iff_not] at hc
  exact hc ho
theorem frl.at0 {B : Nat} {os : List Nat} {M M2 : hz_M} (h : frl B os M M2) (hc : os.elem 0 = false) : M2 B = M B := h.at 0 hc
theorem frl.out {B a : Nat} {os : List Nat} {M M2 : hz_M} (h : frl B os M M2) (hos : os.all (fun o => decide (o < 88)) = true) (ha : a < B ∨ B + 88 ≤ a) : M2 a = M a := by
  refine h _ (fun o ho e => ?_)
  have := of_decide_eq_true (List.all_eq_true.mp hos o ho)
  omega
theorem frl.rf {B : Nat} {os : List Nat} {M : hz_M} : frl B os M M := fun _ _ => rfl
theorem frl.tr {B : Nat} {os os2 os3 : List Nat} {M M2 M3 : hz_M} (h : frl B os M M2) (h2 : frl B os2 M2 M3) (s1 : os.all (fun o => os3.elem o) = true) (s2 : os2.all (fun o => os3.elem o) = true) : frl B os3 M M3 := by
  intro a ha
  have m1 : ∀ o ∈ os, o ∈ os3 := fun o ho => by have q := List.all_eq_true.mp s1 o ho; rwa [List.elem_eq_mem, decide_eq_true_eq] at q
  have m2 : ∀ o ∈ os2, o ∈ os3 := fun o ho => by have q := List.all_eq_true.mp s2 o ho; rwa [List.elem_eq_mem, decide_eq_true_eq] at q
  rw [h2 a (fun o ho => ha o (m2 o ho)), h a (fun o ho => ha o (m1 o ho))]
theorem frl.up {B o : Nat} {M : hz_M} {e : va_E} {os : List Nat} (s1 : os.elem o = true) : frl B os M (va_up M (B + o) e) := by
  intro a ha
  rw [List.elem_eq_mem, decide_eq_true_eq] at s1
  exact va_up_ne _ _ (ha o s1)
/-- the reference's constants -/
def md_k (B : Nat) (M : hz_M) (z : Nat) : Prop := (∃ fs, M B = .inr (12, fs) ∧ md_F B fs) ∧ (∃ ff : Nat → Int32, M (B + 1) = .inl (0, 8, .inl ff) ∧ ∀ j, j < 8 → ff j = hz_sf 0 j) ∧ (∃ fa : Nat → Int32, M (B + 2) = .inl (0, 64, .inl fa) ∧ ∀ j, j < 64 → fa j = hz_sf 1 j) ∧ 8 ≤ B ∧ B + 88 ≤ z
/-- the reference's scratch arrays of hashes and keys -/
def md_s (B : Nat) (M : hz_M) : Prop := (∃ v : Nat → Int32, M (B + 3) = .inl (0, 8, .inl v)) ∧ (∃ u : Nat → Int32, M (B + 4) = .inl (0, 64, .inl u)) ∧ (∃ d : Nat → Int32, M (B + 5) = .inl (1, 32, .inl d)) ∧ (∃ s : Nat → Int32, M (B + 6) = .inl (1, 64, .inl s)) ∧ (∃ g : Nat → Int32, M (B + 7) = .inl (1, 32, .inl g)) ∧ (∃ e : Nat → Int64, M (B + 8) = .inl (2, 8, .inr (.inl e))) ∧ ∃ q : Nat → Int32, M (B + 9) = .inl (0, 8, .inl q)
theorem md_k.fr {B z : Nat} {os : List Nat} {M M2 : hz_M} (h : md_k B M z) (f : frl B os M M2) (h0 : os.elem 0 = false) (h1 : os.elem 1 = false) (h2 : os.elem 2 = false) : md_k B M2 z := by
  obtain ⟨⟨fs, a, b⟩, ⟨ff, c, d⟩, ⟨fa, e, g⟩, hh⟩ := h
  exact ⟨⟨fs, (f.at0 h0).trans a, b⟩, ⟨ff, (f.at 1 h1).trans c, d⟩, ⟨fa, (f.at 2 h2).trans e, g⟩, hh⟩

def md_hF (M : hz_M) (z B : Nat) (os : List Nat) (v : Option Value) (Q : hz_M → Prop) : hz_P := fun r z2 M2 => v = r ∧ z = z2 ∧ frl B os M M2 ∧ md_s B M2 ∧ Q M2
def md_dg (B : Nat) (h : Nat → Int32) (M2 : hz_M) : Prop := ∃ d : Nat → Int32, M2 (B + 5) = .inl (1, 32, .inl d) ∧ ∀ i, i < 32 → d i = sh_dg h i
set_option maxHeartbeats 4000000 in
set_option maxRecDepth 100000 in
theorem c_hashF {κ : hz_C} {z : Nat} {M : hz_M} {B : Nat} (hk : md_k B M z) (hsc : md_s B M) {r nb at_ n : Nat} {f : Nat → Int32} (hR : M r = .inl (1, nb, .inl f)) (hr8 : 8 ≤ r) (hrz : r < z) (hnb : nb < 2 ^ 24) (hrr : at_ + n ≤ nb) : hz_Mt κ xX12_hashOf 2 0 0 [.ref B, .ref r, .int (nI at_), .int (nI n)] z M (md_hF M z B [3, 4, 5] none (md_dg B (sh_h f at_ n))) := by
  obtain ⟨⟨fs, hO, hF⟩, ⟨ff, hfi, hff⟩, ⟨fa, had, hfa⟩, h8, hz⟩ := hk
  obtain ⟨⟨v, hv⟩, ⟨u, hu⟩, ⟨dd, hd⟩, ⟨s6, h6⟩, ⟨g7, h7⟩, ⟨e8, h88⟩, ⟨q9, h9⟩⟩ := hsc
  refine (c_hashOf hO hF h8 hz hfi hff had hfa hv hu hd hR hr8 hrz hnb hrr).weak (fun r z2 M2 h => ?_)
  obtain ⟨rfl, rfl, v2, u2, d2, hv2, hd2, rfl⟩ := h
  refine ⟨rfl, rfl, ?_, ⟨⟨v2, hz_mne (hz_mne (va_up_self _ _ _) (by omega)) (by omega)⟩, ⟨u2, hz_mne (va_up_self _ _ _) (by omega)⟩, ⟨d2, va_up_self _ _ _⟩, ⟨s6, ?_⟩, ⟨g7, ?_⟩, ⟨e8, ?_⟩, ⟨q9, ?_⟩⟩, d2, va_up_self _ _ _, hd2⟩
  · exact ((frl.up (os := [3, 4, 5]) rfl).tr (os3 := [3, 4, 5]) (frl.up (os := [3, 4, 5]) rfl) rfl rfl).tr (frl.up (os := [3, 4, 5]) rfl) rfl rfl
  · exact hz_mne (hz_mne (hz_mne h6 (by omega)) (by omega)) (by omega)
  · exact hz_mne (hz_mne (hz_mne h7 (by omega)) (by omega)) (by omega)
  · exact hz_mne (hz_mne (hz_mne h88 (by omega)) (by omega)) (by omega)
  · exact hz_mne (hz_mne (hz_mne h9 (by omega)) (by omega)) (by omega)
set_option maxHeartbeats 4000000 in
set_option maxRecDepth 100000 in
theorem c_shortOf {κ : hz_C} {z : Nat} {M : hz_M} {B : Nat} (hk : md_k B M z) (hsc : md_s B M) {r nb at_ n : Nat} {f : Nat → Int32} (hR : M r = .inl (1, nb, .inl f)) (hr8 : 8 ≤ r) (hrz : r < z) (hnb : nb < 2 ^ 24) (hrr : at_ + n ≤ nb) : hz_Mt κ xX12_shortOf 3 0 0 [.ref B, .ref r, .int (nI at_), .int (nI n)] z M (md_hF M z B [3, 4, 5] (some (.long (sh_lim (sh_h f at_ n) 0))) (fun _ => True)) := by
  refine hz_ent (lo := [(0, .ref B), (1, .ref r), (2, .int (nI at_)), (3, .int (nI n))]) (by decide) (Nat.le_of_ble_eq_true rfl) rfl ?_
  have hk0 := hk
  have hs0 := hsc
  obtain ⟨⟨fs, hO, hF⟩, -, -, h8, hz⟩ := hk0
  obtain ⟨⟨v3, h3⟩, ⟨u4, h4⟩, ⟨d5, h5⟩, ⟨s6, h6⟩, ⟨g7, h7⟩, ⟨e8, h88⟩, ⟨q9, h9⟩⟩ := hs0
  refine hz_aloadn (pc := 0) 0 (hz_dec kX12_shortOf 0 rfl) rfl ?_
  refine hz_aloadn (pc := 1) 1 (hz_dec kX12_shortOf 1 rfl) rfl ?_
  refine hz_iloadn (pc := 2) 2 (hz_dec kX12_shortOf 2 rfl) rfl ?_
  refine hz_iloadn (pc := 3) 3 (hz_dec kX12_shortOf 3 rfl) rfl ?_
  refine hz_callV (pc := 4) (a := B) (As := [.ref r, .int (nI at_), .int (nI n)]) (st := []) (hz_dec kX12_shortOf 4 rfl) co_X12_326 im_X12_hashOf se_X12_hashOf rfl hO h8 (by omega) (c_hashF hk hsc hR hr8 hrz hnb hrr) rfl (by decide) ⟨Nat.le_refl _, Nat.le_refl _⟩ (Nat.le_of_ble_eq_true rfl) rfl (fun r9 z9 M1 hp9 => ?_)
  obtain ⟨rfl, rfl, hf1, hs1, d, hd, hdc⟩ := hp9
  refine hz_aloadn (pc := 7) 0 (hz_dec kX12_shortOf 5 rfl) rfl ?_
  refine hz_get (pc := 8) (v := .ref (B + 5)) (hz_dec kX12_shortOf 6 rfl) fo_X12_22 ((hf1.at0 rfl).trans hO) h8 (by omega) (hF.2 6 (by decide) (by decide)) ?_
  refine hz_iconst (pc := 11) (v := nI 0) (hz_dec kX12_shortOf 7 rfl) (by decide) ?_
  refine hz_xS (pc := 12) (As := [.ref (B + 5), .int (nI 0)]) (st := []) (hz_dec kX12_shortOf 8 rfl) co_X12_330 sc_X12_longAt (c_longAt hd (by omega) (by omega) (by decide) (by decide)) rfl (by decide) ⟨Nat.le_refl _, Nat.le_refl _⟩ (Nat.le_of_ble_eq_true rfl) rfl ?_
  exact hz_lret (pc := 15) (hz_dec kX12_shortOf 9 rfl) rfl ⟨by rw [← sh_lim_n hdc (k := 0) (by decide)], rfl, hf1, hs1, trivial⟩
set_option maxHeartbeats 4000000 in
set_option maxRecDepth 100000 in
theorem c_partBegin {κ : hz_C} {z : Nat} {M : hz_M} {B : Nat} (hk : md_k B M z) (hsc : md_s B M) {v : Int64} {i : Nat} (hi : i < 8) : hz_Mt κ xX12_partBegin 4 0 0 [.ref B, .long v, .int (nI i)] z M (md_hF M z B [3, 4, 5, 6] (some (.long (ky_b v i))) (fun _ => True)) := by
  refine hz_ent (lo := [(0, .ref B), (1, .long v), (3, .int (nI i))]) (by decide) (Nat.le_of_ble_eq_true rfl) rfl ?_
  have hk0 := hk
  have hs0 := hsc
  obtain ⟨⟨fs, hO, hF⟩, -, -, h8, hz⟩ := hk0
  obtain ⟨⟨v3, h3⟩, ⟨u4, h4⟩, ⟨d5, h5⟩, ⟨s6, h6⟩, ⟨g7, h7⟩, ⟨e8, h88⟩, ⟨q9, h9⟩⟩ := hs0
  refine hz_aloadn (pc := 0) 0 (hz_dec kX12_partBegin 0 rfl) rfl ?_
  refine hz_get (pc := 1) (v := .ref (B + 6)) (hz_dec kX12_partBegin 1 rfl) fo_X12_26 hO h8 (by omega) (hF.2 7 (by decide) (by decide)) ?_
  refine hz_iconst (pc := 4) (v := nI 0) (hz_dec kX12_partBegin 2 rfl) (by decide) ?_
  refine hz_lloadn (pc := 5) 1 (hz_dec kX12_partBegin 3 rfl) rfl ?_
  refine hz_callS (pc := 6) (As := [.ref (B + 6), .int (nI 0), .long v]) (st := []) (hz_dec kX12_partBegin 4 rfl) co_X12_334 sc_X12_putLong (c_putLong h6 (by omega) (by omega) (by decide) (by decide)) rfl (by decide) ⟨Nat.le_refl _, Nat.le_refl _⟩ (Nat.le_of_ble_eq_true rfl) rfl (fun r9 z9 M1 hp9 => ?_)
  obtain ⟨rfl, rfl, s1, hs1, hs2, rfl⟩ := hp9
  refine hz_aloadn (pc := 9) 0 (hz_dec kX12_partBegin 5 rfl) rfl ?_
  refine hz_get (pc := 10) (v := .ref (B + 6)) (hz_dec kX12_partBegin 6 rfl) fo_X12_26 (hz_mne hO (by omega)) h8 (by omega) (hF.2 7 (by decide) (by decide)) ?_
  refine hz_bipush (pc := 13) (v := nI 8) (hz_dec kX12_partBegin 7 rfl) (by decide) ?_
  refine hz_iloadn (pc := 15) 2 (hz_dec kX12_partBegin 8 rfl) rfl ?_
  refine hz_i2b (pc := 16) (hz_dec kX12_partBegin 9 rfl) ?_
  refine hz_bast (pc := 17) (j := 8) (hz_dec kX12_partBegin 10 rfl) (va_up_self _ _ _) (by omega) (by omega) rfl (by omega) (by decide) ?_
  refine hz_mem (pc := 18) (M2 := (va_up M (B + 6) (.inl (1, 64, .inl (upd s1 8 (((nI (i)).toInt8.toInt32).toInt8.toInt32)))))) (bx_uu _ _ _ _) ?_
  generalize hS3 : (upd s1 8 (((nI (i)).toInt8.toInt32).toInt8.toInt32)) = s3
  refine hz_aloadn (pc := 18) 0 (hz_dec kX12_partBegin 11 rfl) rfl ?_
  refine hz_aloadn (pc := 19) 0 (hz_dec kX12_partBegin 12 rfl) rfl ?_
  refine hz_get (pc := 20) (v := .ref (B + 6)) (hz_dec kX12_partBegin 13 rfl) fo_X12_26 (hz_mne hO (by omega)) h8 (by omega) (hF.2 7 (by decide) (by decide)) ?_
  refine hz_iconst (pc := 23) (v := nI 0) (hz_dec kX12_partBegin 14 rfl) (by decide) ?_
  refine hz_bipush (pc := 24) (v := nI 9) (hz_dec kX12_partBegin 15 rfl) (by decide) ?_
  have hk1 : md_k B (va_up M (B + 6) (.inl (1, 64, .inl (s3)))) z := hk.fr (frl.up (os := [6]) rfl) rfl rfl rfl
  have hss : md_s B (va_up M (B + 6) (.inl (1, 64, .inl (s3)))) := ⟨⟨v3, hz_mne h3 (by omega)⟩, ⟨u4, hz_mne h4 (by omega)⟩, ⟨d5, hz_mne h5 (by omega)⟩, ⟨s3, va_up_self _ _ _⟩, ⟨g7, hz_mne h7 (by omega)⟩, ⟨e8, hz_mne h88 (by omega)⟩, ⟨q9, hz_mne h9 (by omega)⟩⟩
  refine hz_callV (pc := 26) (a := B) (As := [.ref (B + 6), .int (nI 0), .int (nI 9)]) (st := []) (hz_dec kX12_partBegin 16 rfl) co_X12_338 im_X12_shortOf se_X12_shortOf rfl (hz_mne hO (by omega)) h8 (by omega) (c_shortOf hk1 hss (va_up_self _ _ _) (by omega) (by omega) (by decide) (by decide)) rfl (by decide) ⟨Nat.le_refl _, Nat.le_refl _⟩ (Nat.le_of_ble_eq_true rfl) rfl (fun r9 z9 M2 hp9 => ?_)
  obtain ⟨rfl, rfl, hf2, hs4, -⟩ := hp9
  have e : sh_h s3 0 9 = hs (fun q => if q < 8 then byl v q else i) 9 := by
    refine hs_of (fun q hq => ?_)
    rw [Nat.zero_add, ← hS3]
    simp only [upd]
    by_cases e8 : q = 8
    · subst e8; rw [if_pos rfl, if_neg (by decide), sb_of (c := i) (by rw [bb_un, un_nI (by omega)]; omega), bb_sb (by omega)]; omega
    have hq8 : q < 8 := by omega
    have h9 := hs1 q hq8
    rw [Nat.zero_add] at h9
    have hb := byl_lt v q
    rw [if_neg e8, if_pos hq8, h9, bb_sb hb]; omega
  exact hz_lret (pc := 29) (hz_dec kX12_partBegin 17 rfl) rfl ⟨by rw [e]; rfl, rfl, (frl.up (os := [6]) rfl).tr hf2 rfl rfl, hs4, trivial⟩
set_option maxHeartbeats 4000000 in
set_option maxRecDepth 100000 in
theorem c_partStep {κ : hz_C} {z : Nat} {M : hz_M} {B : Nat} (hk : md_k B M z) (hsc : md_s B M) {v : Int64} {i : Nat} (hi : i < 8) {j : Nat} (hj : j < 15) : hz_Mt κ xX12_partStep 4 0 0 [.ref B, .long v, .int (nI i), .int (nI j)] z M (md_hF M z B [3, 4, 5, 6] (some (.long (ky_s v i j))) (fun _ => True)) := by
  refine hz_ent (lo := [(0, .ref B), (1, .long v), (3, .int (nI i)), (4, .int (nI j))]) (by decide) (Nat.le_of_ble_eq_true rfl) rfl ?_
  have hk0 := hk
  have hs0 := hsc
  obtain ⟨⟨fs, hO, hF⟩, -, -, h8, hz⟩ := hk0
  obtain ⟨⟨v3, h3⟩, ⟨u4, h4⟩, ⟨d5, h5⟩, ⟨s6, h6⟩, ⟨g7, h7⟩, ⟨e8, h88⟩, ⟨q9, h9⟩⟩ := hs0
  refine hz_aloadn (pc := 0) 0 (hz_dec kX12_partStep 0 rfl) rfl ?_
  refine hz_get (pc := 1) (v := .ref (B + 6)) (hz_dec kX12_partStep 1 rfl) fo_X12_26 hO h8 (by omega) (hF.2 7 (by decide) (by decide)) ?_
  refine hz_iconst (pc := 4) (v := nI 0) (hz_dec kX12_partStep 2 rfl) (by decide) ?_
  refine hz_lloadn (pc := 5) 1 (hz_dec kX12_partStep 3 rfl) rfl ?_
  refine hz_callS (pc := 6) (As := [.ref (B + 6), .int (nI 0), .long v]) (st := []) (hz_dec kX12_partStep 4 rfl) co_X12_334 sc_X12_putLong (c_putLong h6 (by omega) (by omega) (by decide) (by decide)) rfl (by decide) ⟨Nat.le_refl _, Nat.le_refl _⟩ (Nat.le_of_ble_eq_true rfl) rfl (fun r9 z9 M1 hp9 => ?_)
  obtain ⟨rfl, rfl, s1, hs1, hs2, rfl⟩ := hp9
  refine hz_aloadn (pc := 9) 0 (hz_dec kX12_partStep 5 rfl) rfl ?_
  refine hz_get (pc := 10) (v := .ref (B + 6)) (hz_dec kX12_partStep 6 rfl) fo_X12_26 (hz_mne hO (by omega)) h8 (by omega) (hF.2 7 (by decide) (by decide)) ?_
  refine hz_bipush (pc := 13) (v := nI 8) (hz_dec kX12_partStep 7 rfl) (by decide) ?_
  refine hz_iloadn (pc := 15) 2 (hz_dec kX12_partStep 8 rfl) rfl ?_
  refine hz_i2b (pc := 16) (hz_dec kX12_partStep 9 rfl) ?_
  refine hz_bast (pc := 17) (j := 8) (hz_dec kX12_partStep 10 rfl) (va_up_self _ _ _) (by omega) (by omega) rfl (by omega) (by decide) ?_
  refine hz_mem (pc := 18) (M2 := (va_up M (B + 6) (.inl (1, 64, .inl (upd s1 8 (((nI (i)).toInt8.toInt32).toInt8.toInt32)))))) (bx_uu _ _ _ _) ?_
  refine hz_aloadn (pc := 18) 0 (hz_dec kX12_partStep 11 rfl) rfl ?_
  refine hz_get (pc := 19) (v := .ref (B + 6)) (hz_dec kX12_partStep 12 rfl) fo_X12_26 (hz_mne hO (by omega)) h8 (by omega) (hF.2 7 (by decide) (by decide)) ?_
  refine hz_bipush (pc := 22) (v := nI 9) (hz_dec kX12_partStep 13 rfl) (by decide) ?_
  refine hz_bipush (pc := 24) (v := nI 16) (hz_dec kX12_partStep 14 rfl) (by decide) ?_
  refine hz_iload (pc := 26) 3 (hz_dec kX12_partStep 15 rfl) rfl ?_
  refine hz_addN (pc := 28) (hz_dec kX12_partStep 16 rfl) ?_
  refine hz_i2b (pc := 29) (hz_dec kX12_partStep 17 rfl) ?_
  refine hz_bast (pc := 30) (j := 9) (hz_dec kX12_partStep 18 rfl) (va_up_self _ _ _) (by omega) (by omega) rfl (by omega) (by decide) ?_
  refine hz_mem (pc := 31) (M2 := (va_up M (B + 6) (.inl (1, 64, .inl (upd (upd s1 8 (((nI (i)).toInt8.toInt32).toInt8.toInt32)) 9 (((nI (16 + j)).toInt8.toInt32).toInt8.toInt32)))))) (bx_uu _ _ _ _) ?_
  generalize hS3 : (upd (upd s1 8 (((nI (i)).toInt8.toInt32).toInt8.toInt32)) 9 (((nI (16 + j)).toInt8.toInt32).toInt8.toInt32)) = s3
  refine hz_aloadn (pc := 31) 0 (hz_dec kX12_partStep 19 rfl) rfl ?_
  refine hz_aloadn (pc := 32) 0 (hz_dec kX12_partStep 20 rfl) rfl ?_
  refine hz_get (pc := 33) (v := .ref (B + 6)) (hz_dec kX12_partStep 21 rfl) fo_X12_26 (hz_mne hO (by omega)) h8 (by omega) (hF.2 7 (by decide) (by decide)) ?_
  refine hz_iconst (pc := 36) (v := nI 0) (hz_dec kX12_partStep 22 rfl) (by decide) ?_
  refine hz_bipush (pc := 37) (v := nI 10) (hz_dec kX12_partStep 23 rfl) (by decide) ?_
  have hk1 : md_k B (va_up M (B + 6) (.inl (1, 64, .inl (s3)))) z := hk.fr (frl.up (os := [6]) rfl) rfl rfl rfl
  have hss : md_s B (va_up M (B + 6) (.inl (1, 64, .inl (s3)))) := ⟨⟨v3, hz_mne h3 (by omega)⟩, ⟨u4, hz_mne h4 (by omega)⟩, ⟨d5, hz_mne h5 (by omega)⟩, ⟨s3, va_up_self _ _ _⟩, ⟨g7, hz_mne h7 (by omega)⟩, ⟨e8, hz_mne h88 (by omega)⟩, ⟨q9, hz_mne h9 (by omega)⟩⟩
  refine hz_callV (pc := 39) (a := B) (As := [.ref (B + 6), .int (nI 0), .int (nI 10)]) (st := []) (hz_dec kX12_partStep 24 rfl) co_X12_338 im_X12_shortOf se_X12_shortOf rfl (hz_mne hO (by omega)) h8 (by omega) (c_shortOf hk1 hss (va_up_self _ _ _) (by omega) (by omega) (by decide) (by decide)) rfl (by decide) ⟨Nat.le_refl _, Nat.le_refl _⟩ (Nat.le_of_ble_eq_true rfl) rfl (fun r9 z9 M2 hp9 => ?_)
  obtain ⟨rfl, rfl, hf2, hs4, -⟩ := hp9
  have e : sh_h s3 0 10 = hs (fun q => if q < 8 then byl v q else if q = 8 then i else 16 + j) 10 := by
    refine hs_of (fun q hq => ?_)
    rw [Nat.zero_add, ← hS3]
    simp only [upd]
    by_cases e9 : q = 9
    · subst e9; rw [if_pos rfl, if_neg (by decide), if_neg (by decide), sb_of (c := 16 + j) (by rw [bb_un, un_nI (by omega)]; omega), bb_sb (by omega)]; omega
    rw [if_neg e9]
    by_cases e8 : q = 8
    · subst e8; rw [if_pos rfl, if_neg (by decide), if_pos rfl, sb_of (c := i) (by rw [bb_un, un_nI (by omega)]; omega), bb_sb (by omega)]; omega
    have hq8 : q < 8 := by omega
    have h9 := hs1 q hq8
    rw [Nat.zero_add] at h9
    have hb := byl_lt v q
    rw [if_neg e8, if_pos hq8, h9, bb_sb hb]; omega
  exact hz_lret (pc := 42) (hz_dec kX12_partStep 25 rfl) rfl ⟨by rw [e]; rfl, rfl, (frl.up (os := [6]) rfl).tr hf2 rfl rfl, hs4, trivial⟩
