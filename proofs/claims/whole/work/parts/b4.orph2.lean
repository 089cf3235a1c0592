/-! the reference: orphansOf, addOrphan, clean -/
/-- orphans that wait -/
def mkO (lo : List by_L) : List or_O := lo.map (fun b => (b, 1))
theorem mkO_len (lo : List by_L) : (mkO lo).length = lo.length := List.length_map ..
theorem orL_mk (lo : List by_L) {k : Nat} (h : k < lo.length) : orL (mkO lo) k = (rowL lo k, 1) := by
  unfold orL mkO rowL
  rw [List.getD_eq_getElem?_getD, List.getElem?_map, List.getD_eq_getElem?_getD, List.getElem?_eq_getElem h]
  rfl
theorem mkO_er (lo : List by_L) (k : Nat) : (mkO lo).eraseIdx k = mkO (lo.eraseIdx k) := (map_er _ _ _).symm
theorem mkO_app (lo : List by_L) (l : by_L) : mkO (lo ++ [l]) = mkO lo ++ [(l, 1)] := List.map_append ..
theorem orW_mk {lo : List by_L} (h : loW lo) : orW (mkO lo) := by
  refine ⟨by rw [mkO_len]; exact h.1, fun k hk => ?_⟩
  rw [mkO_len] at hk
  rw [orL_mk lo hk]
  exact ⟨h.2 k hk, show 1 < 1000 by decide⟩
theorem loW.er {lo : List by_L} (h : loW lo) {k : Nat} (hk : k < lo.length) : loW (lo.eraseIdx k) := by
  have h1 := h.1
  refine ⟨by rw [er_len hk]; omega, fun j hj => ?_⟩
  rw [er_len hk] at hj
  rw [rowL_er]
  split
  · exact h.2 j (by omega)
  · exact h.2 (j + 1) (by omega)
/-- one more orphan, unless it is there -/
def loD (lo : List by_L) : List by_L := if lo.length = 8 then lo.eraseIdx 0 else lo
def loA (lo : List by_L) (l : by_L) : List by_L := if isLo lo (haS l) = true then lo else loD lo ++ [l]
theorem loD_w {lo : List by_L} (h : loW lo) : loW (loD lo) ∧ (loD lo).length < 8 := by
  have h1 := h.1
  unfold loD
  split
  · exact ⟨h.er (by omega), by rw [er_len (by omega)]; omega⟩
  · exact ⟨h, by omega⟩
theorem loW_app {lo : List by_L} {l : by_L} (h : loW lo) (h8 : lo.length < 8) (hW : blW l) : loW (lo ++ [l]) := by
  refine ⟨by rw [List.length_append]; exact h8, fun k hk => ?_⟩
  rw [List.length_append] at hk
  have hk2 : k < lo.length + 1 := hk
  rcases (show k = lo.length ∨ k < lo.length by omega) with e | c
  · rw [e, rowL_last]; exact hW
  · rw [rowL_app c]; exact h.2 k c
theorem loA_w {lo : List by_L} {l : by_L} (h : loW lo) (hW : blW l) : loW (loA lo l) := by
  unfold loA
  split
  · exact h
  · exact loW_app (loD_w h).1 (loD_w h).2 hW
theorem er_mid {α : Type} (x : α) (F : List α) : ∀ a : List α, (a ++ x :: F).eraseIdx a.length = a ++ F := by
  intro a
  induction a with
  | nil => rfl
  | cons b a ih => show b :: (a ++ x :: F).eraseIdx a.length = b :: (a ++ F); rw [ih]
def clF (ol : List or_O) (k : Nat) : List or_O := ol.take k ++ (ol.drop k).filter (fun x => decide (x.2 = 1))
theorem clF_k {ol : List or_O} {i : Nat} (hi : i < ol.length) (h : (orL ol i).2 = 1) : clF ol (i + 1) = clF ol i := by
  have ex : orL ol i = ol[i] := by unfold orL; rw [List.getD_eq_getElem?_getD, List.getElem?_eq_getElem hi]; rfl
  unfold clF
  rw [take_st ol hi, List.drop_eq_getElem_cons hi, List.filter_cons, if_pos (by rw [← ex]; exact decide_eq_true h), List.append_assoc]
  rfl
theorem clF_d {ol : List or_O} {i : Nat} (hi : i < ol.length) (h : ¬ (orL ol i).2 = 1) : (clF ol (i + 1)).eraseIdx i = clF ol i := by
  have ex : orL ol i = ol[i] := by unfold orL; rw [List.getD_eq_getElem?_getD, List.getElem?_eq_getElem hi]; rfl
  have et : (ol.take i).length = i := by rw [List.length_take]; omega
  unfold clF
  rw [take_st ol hi, List.drop_eq_getElem_cons hi, List.filter_cons, if_neg (by rw [← ex, decide_eq_false h]; decide), List.append_assoc]
  have q := er_mid (ol[i]) ((ol.drop (i + 1)).filter (fun x => decide (x.2 = 1))) (ol.take i)
  rw [et] at q
  exact q
theorem clF_i {ol : List or_O} {i k : Nat} (hi : i < k) (hk : k ≤ ol.length) : orL (clF ol k) i = orL ol i := by
  unfold orL clF
  rw [List.getD_eq_getElem?_getD, List.getD_eq_getElem?_getD, List.getElem?_append_left (by rw [List.length_take]; omega), List.getElem?_take_of_lt hi]
theorem clF_0 (ol : List or_O) : clF ol 0 = ol.filter (fun x => decide (x.2 = 1)) := rfl
theorem clF_n (ol : List or_O) : clF ol ol.length = ol := by
  unfold clF
  rw [List.take_length, List.drop_length]
  exact List.append_nil _
theorem clF_l {ol : List or_O} {k : Nat} (hk : k ≤ ol.length) : k ≤ (clF ol k).length := by
  unfold clF
  rw [List.length_append, List.length_take]
  omega
theorem orW_cl {ol : List or_O} (h : orW ol) : ∀ k j, k + j = ol.length → orW (clF ol k) := by
  intro k j
  induction j generalizing k with
  | zero => intro e; rw [show k = ol.length by omega, clF_n]; exact h
  | succ j ih =>
    intro e
    have q := ih (k + 1) (by omega)
    by_cases c : (orL ol k).2 = 1
    · rw [← clF_k (by omega) c]; exact q
    · rw [← clF_d (by omega) c]
      exact q.er (by have r := clF_l (ol := ol) (k := k + 1) (by omega); omega)
set_option maxHeartbeats 4000000 in
set_option maxRecDepth 100000 in
theorem c_orOf_l {κ : hz_C} {z : Nat} {M : hz_M} {B : Nat} (hO_ : md_O M B) (hE0 : mdE M B) (h8 : 8 ≤ B) (hz : B + 88 ≤ z) {v : Nat} (hv : v < 6) {lo : List by_L} (hol : orX (fA M B) v (mkO lo)) (hlw : loW lo) : ∀ k i, k = lo.length - i → i ≤ lo.length → hz_W κ xX12_orphansOf 0 0 0 (hz_ex (some (.int (nI lo.length))) z M) 0 0 4 [(3, .int (nI i)), (2, .int (nI i)), (0, .ref B), (1, .int (nI v))] [] z M := by
  intro k
  induction k using Nat.strongRecOn with
  | ind k ih =>
  intro i hk hi
  obtain ⟨fs, hO, hF⟩ := id hO_
  have hl8 := hlw.1
  have h67 := hol.1
  rw [mkO_len] at h67
  refine hz_iloadn (pc := 4) 0 (hz_dec kX12_orphansOf 4 rfl) rfl ?_
  refine hz_aloadn (pc := 5) 2 (hz_dec kX12_orphansOf 5 rfl) rfl ?_
  refine hz_get (pc := 6) (v := .ref (B + 67)) (hz_dec kX12_orphansOf 6 rfl) fo_X12_221 hO h8 (by omega) (hF.2 76 (by decide) (by decide)) ?_
  refine hz_iloadn (pc := 9) 3 (hz_dec kX12_orphansOf 7 rfl) rfl ?_
  refine hz_iald (pc := 10) (j := v) (hz_dec kX12_orphansOf 8 rfl) hE0.a67 (by omega) (by omega) rfl (by omega) (by decide) ?_
  refine hz_eqi (pc := 11) h67 ?_
  refine hz_n_ge (pc := 11) (tgt := 43) (hz_dec kX12_orphansOf 9 rfl) (by decide) (by omega) (by omega) (fun h1 => ?_) (fun h1 => ?_)
  · skip
    have e : i = lo.length := by omega
    refine hz_iloadn (pc := 43) 1 (hz_dec kX12_orphansOf 28 rfl) rfl ?_
    exact hz_iret (pc := 44) (hz_dec kX12_orphansOf 29 rfl) rfl ⟨by rw [e], rfl, rfl⟩
  · skip
    have h65 : fA M B 65 (8 * v + i) = nI 1 := by have q := (hol.2 i (by rw [mkO_len]; exact h1)).2.1; rw [orL_mk lo h1] at q; exact q
    refine hz_iloadn (pc := 14) 1 (hz_dec kX12_orphansOf 10 rfl) rfl ?_
    refine hz_aloadn (pc := 15) 2 (hz_dec kX12_orphansOf 11 rfl) rfl ?_
    refine hz_get (pc := 16) (v := .ref (B + 65)) (hz_dec kX12_orphansOf 12 rfl) fo_X12_215 hO h8 (by omega) (hF.2 74 (by decide) (by decide)) ?_
    refine hz_bipush (pc := 19) (v := nI 8) (hz_dec kX12_orphansOf 13 rfl) (by decide) ?_
    refine hz_iloadn (pc := 21) 3 (hz_dec kX12_orphansOf 14 rfl) rfl ?_
    refine hz_mulN (pc := 22) (hz_dec kX12_orphansOf 15 rfl) ?_
    refine hz_iloadn (pc := 23) 0 (hz_dec kX12_orphansOf 16 rfl) rfl ?_
    refine hz_addN (pc := 24) (hz_dec kX12_orphansOf 17 rfl) ?_
    refine hz_iald (pc := 25) (j := (8 * v) + i) (hz_dec kX12_orphansOf 18 rfl) hE0.a65 (by omega) (by omega) rfl (by omega) (by decide) ?_
    refine hz_eqi (pc := 26) h65 ?_
    refine hz_iconst (pc := 26) (v := nI 1) (hz_dec kX12_orphansOf 19 rfl) (by decide) ?_
    refine hz_n_ne (pc := 27) (tgt := 34) (hz_dec kX12_orphansOf 20 rfl) (by decide) (by omega) (by omega) (fun h2 => ?_) (fun h2 => ?_)
    · skip
      exact absurd rfl h2
    · skip
      refine hz_iconst (pc := 30) (v := nI 1) (hz_dec kX12_orphansOf 21 rfl) (by decide) ?_
      refine hz_goto (pc := 31) (tgt := 35) (hz_dec kX12_orphansOf 22 rfl) (by decide) ?_
      refine hz_addN (pc := 35) (hz_dec kX12_orphansOf 24 rfl) ?_
      refine hz_istoren (pc := 36) (i := 2) (lo2 := [(2, .int (nI (i + 1))), (3, .int (nI i)), (0, .ref B), (1, .int (nI v))]) (hz_dec kX12_orphansOf 25 rfl) rfl (by decide) rfl ?_
      refine hz_incN (pc := 37) (i := 3) (lo2 := [(3, .int (nI (i + 1))), (2, .int (nI (i + 1))), (0, .ref B), (1, .int (nI v))]) 1 (hz_dec kX12_orphansOf 26 rfl) rfl (by decide) rfl ?_
      refine hz_goto (pc := 40) (tgt := 4) (hz_dec kX12_orphansOf 27 rfl) (by decide) ?_
      refine hz_pick (pc := 4) [0, 1, 2, 3] rfl ?_
      exact ih (lo.length - (i + 1)) (by omega) (i + 1) rfl (by omega)
set_option maxHeartbeats 4000000 in
set_option maxRecDepth 100000 in
theorem c_orOf {κ : hz_C} {z : Nat} {M : hz_M} {B : Nat} (hO_ : md_O M B) (hE0 : mdE M B) (h8 : 8 ≤ B) (hz : B + 88 ≤ z) {v : Nat} (hv : v < 6) {lo : List by_L} (hol : orX (fA M B) v (mkO lo)) (hlw : loW lo) : hz_Mt κ xX12_orphansOf 0 0 0 [.ref B, .int (nI v)] z M (hz_ex (some (.int (nI lo.length))) z M) := by
  refine hz_ent (lo := [(0, .ref B), (1, .int (nI v))]) (by decide) (Nat.le_of_ble_eq_true rfl) rfl ?_
  refine hz_iconst (pc := 0) (v := nI 0) (hz_dec kX12_orphansOf 0 rfl) (by decide) ?_
  refine hz_istoren (pc := 1) (i := 2) (lo2 := [(2, .int (nI 0)), (0, .ref B), (1, .int (nI v))]) (hz_dec kX12_orphansOf 1 rfl) rfl (by decide) rfl ?_
  refine hz_iconst (pc := 2) (v := nI 0) (hz_dec kX12_orphansOf 2 rfl) (by decide) ?_
  refine hz_istoren (pc := 3) (i := 3) (lo2 := [(3, .int (nI 0)), (2, .int (nI 0)), (0, .ref B), (1, .int (nI v))]) (hz_dec kX12_orphansOf 3 rfl) rfl (by decide) rfl ?_
  refine hz_pick (pc := 4) [0, 1, 2, 3] rfl ?_
  exact c_orOf_l hO_ hE0 h8 hz hv hol hlw lo.length 0 rfl (Nat.zero_le _)
set_option maxHeartbeats 4000000 in
set_option maxRecDepth 100000 in
theorem c_cln_l {κ : hz_C} {z : Nat} {M0 : hz_M} {B : Nat} (hO_ : md_O M0 B) (hE0 : mdE M0 B) (h8 : 8 ≤ B) (hz : B + 88 ≤ z) {v : Nat} (hv : v < 6) {ol : List or_O} (hol0 : orX (fA M0 B) v ol) (how : orW ol) : ∀ k M, k ≤ ol.length → mfr B [] [63, 64, 65, 66, 67] M0 M → mdE M B → agV M0 M B v → orX (fA M B) v (clF ol k) → hz_W κ xX12_clean 1 0 0 (fun r z2 M2 => none = r ∧ z = z2 ∧ mfr B [] [63, 64, 65, 66, 67] M0 M2 ∧ mdE M2 B ∧ agV M0 M2 B v ∧ orX (fA M2 B) v (ol.filter (fun x => decide (x.2 = 1)))) 0 0 9 [(2, .int (nI k - 1)), (0, .ref B), (1, .int (nI v))] [] z M := by
  intro k
  induction k with
  | zero =>
    intro M hk hfr hE hag hol
    refine hz_iloadn (pc := 9) 0 (hz_dec kX12_clean 7 rfl) rfl ?_
    refine hz_if_lt (pc := 10) (tgt := 40) (hz_dec kX12_clean 8 rfl) (by decide) (fun q1 => ?_) (fun q1 => ?_)
    · skip
      exact hz_vret (pc := 40) (hz_dec kX12_clean 25 rfl) rfl ⟨rfl, rfl, hfr, hE, hag, hol⟩
    · skip
      exact absurd (by decide) q1
  | succ i ih =>
    intro M hk hfr hE hag hol
    rw [nI_pred]
    obtain ⟨fs, hO, hF⟩ := id hfr.2.1
    have hl8 := how.1
    have hcl := clF_l (ol := ol) (k := i + 1) hk
    have hci := clF_i (ol := ol) (i := i) (k := i + 1) (by omega) hk
    have hwc := orW_cl how (i + 1) (ol.length - (i + 1)) (by omega)
    have h65 := (hol.2 i (by omega)).2.1
    rw [hci] at h65
    have hs9 := (how.2 i (by omega)).2
    refine hz_iloadn (pc := 9) 0 (hz_dec kX12_clean 7 rfl) rfl ?_
    refine hz_z_lt (pc := 10) (tgt := 40) (hz_dec kX12_clean 8 rfl) (by decide) (by omega) ?_
    refine hz_aloadn (pc := 13) 1 (hz_dec kX12_clean 9 rfl) rfl ?_
    refine hz_get (pc := 14) (v := .ref (B + 65)) (hz_dec kX12_clean 10 rfl) fo_X12_215 hO h8 (by omega) (hF.2 74 (by decide) (by decide)) ?_
    refine hz_bipush (pc := 17) (v := nI 8) (hz_dec kX12_clean 11 rfl) (by decide) ?_
    refine hz_iloadn (pc := 19) 2 (hz_dec kX12_clean 12 rfl) rfl ?_
    refine hz_mulN (pc := 20) (hz_dec kX12_clean 13 rfl) ?_
    refine hz_iloadn (pc := 21) 0 (hz_dec kX12_clean 14 rfl) rfl ?_
    refine hz_addN (pc := 22) (hz_dec kX12_clean 15 rfl) ?_
    refine hz_iald (pc := 23) (j := (8 * v) + i) (hz_dec kX12_clean 16 rfl) hE.a65 (by omega) (by omega) rfl (by omega) (by decide) ?_
    refine hz_eqi (pc := 24) h65 ?_
    refine hz_iconst (pc := 24) (v := nI 1) (hz_dec kX12_clean 17 rfl) (by decide) ?_
    refine hz_n_eq (pc := 25) (tgt := 34) (hz_dec kX12_clean 18 rfl) (by decide) (by omega) (by omega) (fun h2 => ?_) (fun h2 => ?_)
    · skip
      refine hz_iinc (pc := 34) (i := 2) (w := nI i - 1) (lo2 := [(2, .int (nI i - 1)), (0, .ref B), (1, .int (nI v))]) 0 (hz_dec kX12_clean 23 rfl) rfl (hz_m1 _) (by decide) rfl ?_
      refine hz_goto (pc := 37) (tgt := 9) (hz_dec kX12_clean 24 rfl) (by decide) ?_
      refine hz_pick (pc := 9) [0, 1, 2] rfl ?_
      exact ih M (by omega) hfr hE hag (by rw [← clF_k (by omega) h2]; exact hol)
    · skip
      refine hz_aloadn (pc := 28) 1 (hz_dec kX12_clean 19 rfl) rfl ?_
      refine hz_iloadn (pc := 29) 2 (hz_dec kX12_clean 20 rfl) rfl ?_
      refine hz_iloadn (pc := 30) 0 (hz_dec kX12_clean 21 rfl) rfl ?_
      refine hz_callV (pc := 31) (a := B) (As := [.int (nI v), .int (nI i)]) (st := []) (hz_dec kX12_clean 22 rfl) co_X12_585 im_X12_dropOrphan se_X12_dropOrphan rfl hO h8 (by omega) (c_dO hfr.2.1 hE h8 hz hv hol hwc (k0 := i) (by omega)) rfl (by decide) ⟨Nat.le_refl _, Nat.le_refl _⟩ (Nat.le_of_ble_eq_true rfl) rfl (fun r9 z9 M2 hp9 => ?_)
      obtain ⟨rfl, rfl, hf2, hE2, hag2, hol2⟩ := hp9
      refine hz_iinc (pc := 34) (i := 2) (w := nI i - 1) (lo2 := [(2, .int (nI i - 1)), (0, .ref B), (1, .int (nI v))]) 0 (hz_dec kX12_clean 23 rfl) rfl (hz_m1 _) (by decide) rfl ?_
      refine hz_goto (pc := 37) (tgt := 9) (hz_dec kX12_clean 24 rfl) (by decide) ?_
      refine hz_pick (pc := 9) [0, 1, 2] rfl ?_
      exact ih M2 (by omega) (hfr.tr hf2) hE2 (hag.tr hag2) (by rw [← clF_d (by omega) h2]; exact hol2)
set_option maxHeartbeats 4000000 in
set_option maxRecDepth 100000 in
theorem c_cln {κ : hz_C} {z : Nat} {M : hz_M} {B : Nat} (hO_ : md_O M B) (hE0 : mdE M B) (h8 : 8 ≤ B) (hz : B + 88 ≤ z) {v : Nat} (hv : v < 6) {ol : List or_O} (hol0 : orX (fA M B) v ol) (how : orW ol) : hz_Mt κ xX12_clean 1 0 0 [.ref B, .int (nI v)] z M (fun r z2 M2 => none = r ∧ z = z2 ∧ mfr B [] [63, 64, 65, 66, 67] M M2 ∧ mdE M2 B ∧ agV M M2 B v ∧ orX (fA M2 B) v (ol.filter (fun x => decide (x.2 = 1)))) := by
  refine hz_ent (lo := [(0, .ref B), (1, .int (nI v))]) (by decide) (Nat.le_of_ble_eq_true rfl) rfl ?_
  obtain ⟨fs, hO, hF⟩ := id hO_
  refine hz_aloadn (pc := 0) 0 (hz_dec kX12_clean 0 rfl) rfl ?_
  refine hz_get (pc := 1) (v := .ref (B + 67)) (hz_dec kX12_clean 1 rfl) fo_X12_221 hO h8 (by omega) (hF.2 76 (by decide) (by decide)) ?_
  refine hz_iloadn (pc := 4) 1 (hz_dec kX12_clean 2 rfl) rfl ?_
  refine hz_iald (pc := 5) (j := v) (hz_dec kX12_clean 3 rfl) hE0.a67 (by omega) (by omega) rfl (by omega) (by decide) ?_
  refine hz_eqi (pc := 6) hol0.1 ?_
  refine hz_iconst (pc := 6) (v := nI 1) (hz_dec kX12_clean 4 rfl) (by decide) ?_
  refine hz_isub (pc := 7) (hz_dec kX12_clean 5 rfl) ?_
  refine hz_eqi (pc := 8) (show _ = nI ol.length - 1 from rfl) ?_
  refine hz_istoren (pc := 8) (i := 2) (lo2 := [(2, .int (nI ol.length - 1)), (0, .ref B), (1, .int (nI v))]) (hz_dec kX12_clean 6 rfl) rfl (by decide) rfl ?_
  refine hz_pick (pc := 9) [0, 1, 2] rfl ?_
  exact c_cln_l hO_ hE0 h8 hz hv hol0 how ol.length M (Nat.le_refl _) (mfr.rf hO_) hE0 agV.rf (by rw [clF_n]; exact hol0)
set_option maxHeartbeats 4000000 in
set_option maxRecDepth 100000 in
theorem c_aO_b {κ : hz_C} {z : Nat} {M0 : hz_M} {B : Nat} (hO_ : md_O M0 B) (hE0 : mdE M0 B) (h8 : 8 ≤ B) (hz : B + 88 ≤ z) {v : Nat} (hv : v < 6) {lo : List by_L} (hol0 : orX (fA M0 B) v (mkO lo)) (hlw : loW lo) {l : by_L} (hW : blW l) (hA0 : isA (fA M0 B 35) 0 l) (h390 : fdB M0 B 39 = some (.int (nI l.length))) (h530 : isA (fA M0 B 53) 0 (haS l)) (hno : isLo lo (haS l) = false) : ∀ k i M, k = l.length - i → i ≤ l.length → mfr B [] [63, 64, 65, 66, 67] M0 M → mdE M B → agV M0 M B v → fA M B 67 v = nI ((loD lo).length + 1) → (∀ k, k < (loD lo).length → oeX (fA M B) (8 * v + k) (rowL (loD lo) k, 1)) → fA M B 64 (8 * v + (loD lo).length) = nI l.length → fA M B 65 (8 * v + (loD lo).length) = nI 1 → isA (fA M B 66) (32 * (8 * v + (loD lo).length)) (haS l) → (∀ q, q < i → fA M B 63 (4000 * (8 * v + (loD lo).length) + q) = lf l q) → hz_W κ xX12_addOrphan 1 0 0 (fun r z2 M2 => some (.int (hz_b (!isLo lo (haS l)))) = r ∧ z = z2 ∧ mfr B [] [63, 64, 65, 66, 67] M0 M2 ∧ mdE M2 B ∧ agV M0 M2 B v ∧ orX (fA M2 B) v (mkO (loA lo l))) 0 0 135 [(3, .int (nI i)), (2, .int (nI (8 * v + (loD lo).length))), (0, .ref B), (1, .int (nI v))] [] z M := by
  intro k
  induction k using Nat.strongRecOn with
  | ind k ih =>
  intro i M hk hi hfr hE hag h67 hold h64 h65 h66 h63
  obtain ⟨fs, hO, hF⟩ := id hfr.2.1
  obtain ⟨hdw, hd8⟩ := loD_w hlw
  have hln9 := hW.len
  have h32 := haS_len l
  have g39 : fs[39]? = some (.int (nI l.length)) := (fdB_of hO 39).symm.trans ((hfr.2.2 39 rfl).trans h390)
  have hA : isA (fA M B 35) 0 l := by rw [fA_m hfr (by decide) rfl]; exact hA0
  refine hz_bytes hE.a35 (by omega) (by omega) (fun hby => ?_)
  refine hz_iloadn (pc := 135) 0 (hz_dec kX12_addOrphan 86 rfl) rfl ?_
  refine hz_aloadn (pc := 136) 2 (hz_dec kX12_addOrphan 87 rfl) rfl ?_
  refine hz_get (pc := 137) (v := .int (nI (l.length))) (hz_dec kX12_addOrphan 88 rfl) fo_X12_422 hO h8 (by omega) g39 ?_
  refine hz_n_ge (pc := 140) (tgt := 167) (hz_dec kX12_addOrphan 89 rfl) (by decide) (by omega) (by omega) (fun h1 => ?_) (fun h1 => ?_)
  · skip
    have e : i = l.length := by omega
    refine hz_iconst (pc := 167) (v := nI 1) (hz_dec kX12_addOrphan 104 rfl) (by decide) ?_
    refine hz_zret (pc := 168) (hz_dec kX12_addOrphan 105 rfl) rfl rfl ⟨by rw [hno]; rfl, rfl, hfr, hE, hag, ?_⟩
    have eL : mkO (loA lo l) = mkO (loD lo) ++ [(l, 1)] := by unfold loA; rw [if_neg (by rw [hno]; decide), mkO_app]
    rw [eL]
    refine ⟨by rw [List.length_append, mkO_len]; exact h67, fun k hk => ?_⟩
    rw [List.length_append, mkO_len] at hk
    have hk2 : k < (loD lo).length + 1 := hk
    rcases (show k = (loD lo).length ∨ k < (loD lo).length by omega) with c | c
    · have q : orL (mkO (loD lo) ++ [(l, 1)]) k = (l, 1) := by rw [c, ← mkO_len]; exact orL_last
      rw [q, c]; exact ⟨h64, h65, h66, fun q hq => h63 q (by rw [e]; exact hq)⟩
    · rw [orL_app (by rw [mkO_len]; exact c), orL_mk _ c]; exact hold k c
  · skip
    refine hz_aloadn (pc := 143) 2 (hz_dec kX12_addOrphan 90 rfl) rfl ?_
    refine hz_get (pc := 144) (v := .ref (B + 63)) (hz_dec kX12_addOrphan 91 rfl) fo_X12_209 hO h8 (by omega) (hF.2 72 (by decide) (by decide)) ?_
    refine hz_sipush (pc := 147) (v := nI 4000) (hz_dec kX12_addOrphan 92 rfl) (by decide) ?_
    refine hz_iloadn (pc := 150) 1 (hz_dec kX12_addOrphan 93 rfl) rfl ?_
    refine hz_mulN (pc := 151) (hz_dec kX12_addOrphan 94 rfl) ?_
    refine hz_iloadn (pc := 152) 0 (hz_dec kX12_addOrphan 95 rfl) rfl ?_
    refine hz_addN (pc := 153) (hz_dec kX12_addOrphan 96 rfl) ?_
    refine hz_aloadn (pc := 154) 2 (hz_dec kX12_addOrphan 97 rfl) rfl ?_
    refine hz_get (pc := 155) (v := .ref (B + 35)) (hz_dec kX12_addOrphan 98 rfl) fo_X12_116 hO h8 (by omega) (hF.2 38 (by decide) (by decide)) ?_
    refine hz_iloadn (pc := 158) 0 (hz_dec kX12_addOrphan 99 rfl) rfl ?_
    refine hz_bald (pc := 159) (j := i) (hz_dec kX12_addOrphan 100 rfl) hE.a35 (by omega) (by omega) rfl (by omega) (by decide) ?_
    refine hz_bast (pc := 160) (j := (4000 * (8 * v + (loD lo).length)) + i) (hz_dec kX12_addOrphan 101 rfl) hE.a63 (by omega) (by omega) rfl (by omega) (by decide) ?_
    have e9 : ∀ o, ¬ o = 63 → fA (va_up M (B + 63) (.inl (1, 192000, .inl (upd (fA M B 63) ((4000 * (8 * v + (loD lo).length)) + i) (((fA M B 35) i).toInt8.toInt32))))) B o = fA M B o := fun o h9 => fA_c (va_up_ne _ _ (by omega))
    have p63 : fA (va_up M (B + 63) (.inl (1, 192000, .inl (upd (fA M B 63) ((4000 * (8 * v + (loD lo).length)) + i) (((fA M B 35) i).toInt8.toInt32))))) B 63 = upd (fA M B 63) ((4000 * (8 * v + (loD lo).length)) + i) (((fA M B 35) i).toInt8.toInt32) := fA_of (va_up_self _ _ _)
    have ho9 : oeO M (va_up M (B + 63) (.inl (1, 192000, .inl (upd (fA M B 63) ((4000 * (8 * v + (loD lo).length)) + i) (((fA M B 35) i).toInt8.toInt32))))) B (8 * v + (loD lo).length) := ⟨fun y hy => by rw [e9 64 (by decide)], fun y hy => by rw [e9 65 (by decide)], fun y hy => by rw [e9 66 (by decide)], fun y hy => by rw [p63, upd_o (by omega)]⟩
    have hold9 : ∀ k, k < (loD lo).length → oeX (fA (va_up M (B + 63) (.inl (1, 192000, .inl (upd (fA M B 63) ((4000 * (8 * v + (loD lo).length)) + i) (((fA M B 35) i).toInt8.toInt32))))) B) (8 * v + k) (rowL (loD lo) k, 1) := fun k hk => ho9.x (by omega) (by have q := (hdw.2 k hk).len; show (rowL (loD lo) k).length ≤ 4000; omega) (hold k hk)
    refine hz_incN (pc := 161) (i := 3) (lo2 := [(3, .int (nI (i + 1))), (2, .int (nI (8 * v + (loD lo).length))), (0, .ref B), (1, .int (nI v))]) 0 (hz_dec kX12_addOrphan 102 rfl) rfl (by decide) rfl ?_
    refine hz_goto (pc := 164) (tgt := 135) (hz_dec kX12_addOrphan 103 rfl) (by decide) ?_
    refine hz_pick (pc := 135) [0, 1, 2, 3] rfl ?_
    refine ih (l.length - (i + 1)) (by omega) (i + 1) _ rfl (by omega) (hfr.upA (o := 63) rfl (by decide)) (hE.upA (by decide)) (hag.upA (s := 32000) (by decide) (by decide) (fun x hx => upd_o (by omega))) (by rw [e9 67 (by decide)]; exact h67) hold9 (by rw [e9 64 (by decide)]; exact h64) (by rw [e9 65 (by decide)]; exact h65) (by rw [e9 66 (by decide)]; exact h66) ?_
    rw [p63]
    intro q hq
    rcases (show q = i ∨ q < i by omega) with e | c
    · rw [e, upd_s, hby _ (by omega)]; have r := hA i h1; rw [Nat.zero_add] at r; exact r
    · rw [upd_o (by omega)]; exact h63 q c
set_option maxHeartbeats 4000000 in
set_option maxRecDepth 100000 in
theorem c_aO_h {κ : hz_C} {z : Nat} {M0 : hz_M} {B : Nat} (hO_ : md_O M0 B) (hE0 : mdE M0 B) (h8 : 8 ≤ B) (hz : B + 88 ≤ z) {v : Nat} (hv : v < 6) {lo : List by_L} (hol0 : orX (fA M0 B) v (mkO lo)) (hlw : loW lo) {l : by_L} (hW : blW l) (hA0 : isA (fA M0 B 35) 0 l) (h390 : fdB M0 B 39 = some (.int (nI l.length))) (h530 : isA (fA M0 B 53) 0 (haS l)) (hno : isLo lo (haS l) = false) : ∀ k i M, k = 32 - i → i ≤ 32 → mfr B [] [63, 64, 65, 66, 67] M0 M → mdE M B → agV M0 M B v → fA M B 67 v = nI ((loD lo).length + 1) → (∀ k, k < (loD lo).length → oeX (fA M B) (8 * v + k) (rowL (loD lo) k, 1)) → fA M B 64 (8 * v + (loD lo).length) = nI l.length → fA M B 65 (8 * v + (loD lo).length) = nI 1 → (∀ q, q < i → fA M B 66 (32 * (8 * v + (loD lo).length) + q) = lf (haS l) q) → hz_W κ xX12_addOrphan 1 0 0 (fun r z2 M2 => some (.int (hz_b (!isLo lo (haS l)))) = r ∧ z = z2 ∧ mfr B [] [63, 64, 65, 66, 67] M0 M2 ∧ mdE M2 B ∧ agV M0 M2 B v ∧ orX (fA M2 B) v (mkO (loA lo l))) 0 0 104 [(3, .int (nI i)), (2, .int (nI (8 * v + (loD lo).length))), (0, .ref B), (1, .int (nI v))] [] z M := by
  intro k
  induction k using Nat.strongRecOn with
  | ind k ih =>
  intro i M hk hi hfr hE hag h67 hold h64 h65 h66
  obtain ⟨fs, hO, hF⟩ := id hfr.2.1
  obtain ⟨hdw, hd8⟩ := loD_w hlw
  have hln9 := hW.len
  have h32 := haS_len l
  have hA : isA (fA M B 53) 0 (haS l) := by rw [fA_m hfr (by decide) rfl]; exact h530
  refine hz_bytes hE.a53 (by omega) (by omega) (fun hby => ?_)
  refine hz_iloadn (pc := 104) 0 (hz_dec kX12_addOrphan 67 rfl) rfl ?_
  refine hz_bipush (pc := 105) (v := nI 32) (hz_dec kX12_addOrphan 68 rfl) (by decide) ?_
  refine hz_n_ge (pc := 107) (tgt := 133) (hz_dec kX12_addOrphan 69 rfl) (by decide) (by omega) (by omega) (fun h1 => ?_) (fun h1 => ?_)
  · skip
    have e : i = 32 := by omega
    refine hz_iconst (pc := 133) (v := nI 0) (hz_dec kX12_addOrphan 84 rfl) (by decide) ?_
    refine hz_istoren (pc := 134) (i := 3) (lo2 := [(3, .int (nI 0)), (2, .int (nI (8 * v + (loD lo).length))), (0, .ref B), (1, .int (nI v))]) (hz_dec kX12_addOrphan 85 rfl) rfl (by decide) rfl ?_
    refine hz_pick (pc := 135) [0, 1, 2, 3] rfl ?_
    exact c_aO_b hO_ hE0 h8 hz hv hol0 hlw hW hA0 h390 h530 hno l.length 0 M rfl (Nat.zero_le _) hfr hE hag h67 hold h64 h65 (fun q hq => h66 q (by omega)) (fun q hq => absurd hq (by omega))
  · skip
    refine hz_aloadn (pc := 110) 2 (hz_dec kX12_addOrphan 70 rfl) rfl ?_
    refine hz_get (pc := 111) (v := .ref (B + 66)) (hz_dec kX12_addOrphan 71 rfl) fo_X12_218 hO h8 (by omega) (hF.2 75 (by decide) (by decide)) ?_
    refine hz_bipush (pc := 114) (v := nI 32) (hz_dec kX12_addOrphan 72 rfl) (by decide) ?_
    refine hz_iloadn (pc := 116) 1 (hz_dec kX12_addOrphan 73 rfl) rfl ?_
    refine hz_mulN (pc := 117) (hz_dec kX12_addOrphan 74 rfl) ?_
    refine hz_iloadn (pc := 118) 0 (hz_dec kX12_addOrphan 75 rfl) rfl ?_
    refine hz_addN (pc := 119) (hz_dec kX12_addOrphan 76 rfl) ?_
    refine hz_aloadn (pc := 120) 2 (hz_dec kX12_addOrphan 77 rfl) rfl ?_
    refine hz_get (pc := 121) (v := .ref (B + 53)) (hz_dec kX12_addOrphan 78 rfl) fo_X12_177 hO h8 (by omega) (hF.2 62 (by decide) (by decide)) ?_
    refine hz_iloadn (pc := 124) 0 (hz_dec kX12_addOrphan 79 rfl) rfl ?_
    refine hz_bald (pc := 125) (j := i) (hz_dec kX12_addOrphan 80 rfl) hE.a53 (by omega) (by omega) rfl (by omega) (by decide) ?_
    refine hz_bast (pc := 126) (j := (32 * (8 * v + (loD lo).length)) + i) (hz_dec kX12_addOrphan 81 rfl) hE.a66 (by omega) (by omega) rfl (by omega) (by decide) ?_
    have e9 : ∀ o, ¬ o = 66 → fA (va_up M (B + 66) (.inl (1, 1536, .inl (upd (fA M B 66) ((32 * (8 * v + (loD lo).length)) + i) (((fA M B 53) i).toInt8.toInt32))))) B o = fA M B o := fun o h9 => fA_c (va_up_ne _ _ (by omega))
    have p66 : fA (va_up M (B + 66) (.inl (1, 1536, .inl (upd (fA M B 66) ((32 * (8 * v + (loD lo).length)) + i) (((fA M B 53) i).toInt8.toInt32))))) B 66 = upd (fA M B 66) ((32 * (8 * v + (loD lo).length)) + i) (((fA M B 53) i).toInt8.toInt32) := fA_of (va_up_self _ _ _)
    have ho9 : oeO M (va_up M (B + 66) (.inl (1, 1536, .inl (upd (fA M B 66) ((32 * (8 * v + (loD lo).length)) + i) (((fA M B 53) i).toInt8.toInt32))))) B (8 * v + (loD lo).length) := ⟨fun y hy => by rw [e9 64 (by decide)], fun y hy => by rw [e9 65 (by decide)], fun y hy => by rw [p66, upd_o (by omega)], fun y hy => by rw [e9 63 (by decide)]⟩
    have hold9 : ∀ k, k < (loD lo).length → oeX (fA (va_up M (B + 66) (.inl (1, 1536, .inl (upd (fA M B 66) ((32 * (8 * v + (loD lo).length)) + i) (((fA M B 53) i).toInt8.toInt32))))) B) (8 * v + k) (rowL (loD lo) k, 1) := fun k hk => ho9.x (by omega) (by have q := (hdw.2 k hk).len; show (rowL (loD lo) k).length ≤ 4000; omega) (hold k hk)
    refine hz_incN (pc := 127) (i := 3) (lo2 := [(3, .int (nI (i + 1))), (2, .int (nI (8 * v + (loD lo).length))), (0, .ref B), (1, .int (nI v))]) 0 (hz_dec kX12_addOrphan 82 rfl) rfl (by decide) rfl ?_
    refine hz_goto (pc := 130) (tgt := 104) (hz_dec kX12_addOrphan 83 rfl) (by decide) ?_
    refine hz_pick (pc := 104) [0, 1, 2, 3] rfl ?_
    refine ih (32 - (i + 1)) (by omega) (i + 1) _ rfl (by omega) (hfr.upA (o := 66) rfl (by decide)) (hE.upA (by decide)) (hag.upA (s := 256) (by decide) (by decide) (fun x hx => upd_o (by omega))) (by rw [e9 67 (by decide)]; exact h67) hold9 (by rw [e9 64 (by decide)]; exact h64) (by rw [e9 65 (by decide)]; exact h65) ?_
    rw [p66]
    intro q hq
    rcases (show q = i ∨ q < i by omega) with e | c
    · rw [e, upd_s, hby _ (by omega)]; have r := hA i (by omega); rw [Nat.zero_add] at r; exact r
    · rw [upd_o (by omega)]; exact h66 q c
set_option maxHeartbeats 4000000 in
set_option maxRecDepth 100000 in
theorem c_aO_n {κ : hz_C} {z : Nat} {M0 : hz_M} {B : Nat} (hO_ : md_O M0 B) (hE0 : mdE M0 B) (h8 : 8 ≤ B) (hz : B + 88 ≤ z) {v : Nat} (hv : v < 6) {lo : List by_L} (hol0 : orX (fA M0 B) v (mkO lo)) (hlw : loW lo) {l : by_L} (hW : blW l) (hA0 : isA (fA M0 B 35) 0 l) (h390 : fdB M0 B 39 = some (.int (nI l.length))) (h530 : isA (fA M0 B 53) 0 (haS l)) (hno : isLo lo (haS l) = false) {M : hz_M} (hfr : mfr B [] [63, 64, 65, 66, 67] M0 M) (hE : mdE M B) (hag : agV M0 M B v) (hol : orX (fA M B) v (mkO (loD lo))) : hz_W κ xX12_addOrphan 1 0 0 (fun r z2 M2 => some (.int (hz_b (!isLo lo (haS l)))) = r ∧ z = z2 ∧ mfr B [] [63, 64, 65, 66, 67] M0 M2 ∧ mdE M2 B ∧ agV M0 M2 B v ∧ orX (fA M2 B) v (mkO (loA lo l))) 0 0 63 [(0, .ref B), (1, .int (nI v))] [] z M := by
  obtain ⟨fs, hO, hF⟩ := id hfr.2.1
  obtain ⟨hdw, hd8⟩ := loD_w hlw
  have hln9 := hW.len
  have h32 := haS_len l
  have g39 : fs[39]? = some (.int (nI l.length)) := (fdB_of hO 39).symm.trans ((hfr.2.2 39 rfl).trans h390)
  have h67 := hol.1
  rw [mkO_len] at h67
  refine hz_bipush (pc := 63) (v := nI 8) (hz_dec kX12_addOrphan 37 rfl) (by decide) ?_
  refine hz_iloadn (pc := 65) 1 (hz_dec kX12_addOrphan 38 rfl) rfl ?_
  refine hz_mulN (pc := 66) (hz_dec kX12_addOrphan 39 rfl) ?_
  refine hz_aloadn (pc := 67) 0 (hz_dec kX12_addOrphan 40 rfl) rfl ?_
  refine hz_get (pc := 68) (v := .ref (B + 67)) (hz_dec kX12_addOrphan 41 rfl) fo_X12_221 hO h8 (by omega) (hF.2 76 (by decide) (by decide)) ?_
  refine hz_iloadn (pc := 71) 1 (hz_dec kX12_addOrphan 42 rfl) rfl ?_
  refine hz_iald (pc := 72) (j := v) (hz_dec kX12_addOrphan 43 rfl) hE.a67 (by omega) (by omega) rfl (by omega) (by decide) ?_
  refine hz_eqi (pc := 73) h67 ?_
  refine hz_addN (pc := 73) (hz_dec kX12_addOrphan 44 rfl) ?_
  refine hz_istoren (pc := 74) (i := 2) (lo2 := [(2, .int (nI ((8 * v) + ((loD lo).length)))), (0, .ref B), (1, .int (nI v))]) (hz_dec kX12_addOrphan 45 rfl) rfl (by decide) rfl ?_
  refine hz_aloadn (pc := 75) 1 (hz_dec kX12_addOrphan 46 rfl) rfl ?_
  refine hz_get (pc := 76) (v := .ref (B + 67)) (hz_dec kX12_addOrphan 47 rfl) fo_X12_221 hO h8 (by omega) (hF.2 76 (by decide) (by decide)) ?_
  refine hz_iloadn (pc := 79) 2 (hz_dec kX12_addOrphan 48 rfl) rfl ?_
  refine hz_dup2 (pc := 80) (hz_dec kX12_addOrphan 49 rfl) rfl rfl ?_
  refine hz_iald (pc := 81) (j := v) (hz_dec kX12_addOrphan 50 rfl) hE.a67 (by omega) (by omega) rfl (by omega) (by decide) ?_
  refine hz_eqi (pc := 82) h67 ?_
  refine hz_iconst (pc := 82) (v := nI 1) (hz_dec kX12_addOrphan 51 rfl) (by decide) ?_
  refine hz_addN (pc := 83) (hz_dec kX12_addOrphan 52 rfl) ?_
  refine hz_iast (pc := 84) (j := v) (hz_dec kX12_addOrphan 53 rfl) hE.a67 (by omega) (by omega) rfl (by omega) (by decide) ?_
  refine hz_aloadn (pc := 85) 1 (hz_dec kX12_addOrphan 54 rfl) rfl ?_
  refine hz_get (pc := 86) (v := .ref (B + 64)) (hz_dec kX12_addOrphan 55 rfl) fo_X12_212 (hz_mne hO (by omega)) h8 (by omega) (hF.2 73 (by decide) (by decide)) ?_
  refine hz_iloadn (pc := 89) 0 (hz_dec kX12_addOrphan 56 rfl) rfl ?_
  refine hz_aloadn (pc := 90) 1 (hz_dec kX12_addOrphan 57 rfl) rfl ?_
  refine hz_get (pc := 91) (v := .int (nI (l.length))) (hz_dec kX12_addOrphan 58 rfl) fo_X12_422 (hz_mne hO (by omega)) h8 (by omega) g39 ?_
  refine hz_iast (pc := 94) (j := (8 * v) + ((loD lo).length)) (hz_dec kX12_addOrphan 59 rfl) (hz_mne hE.a64 (by omega)) (by omega) (by omega) rfl (by omega) (by decide) ?_
  refine hz_aloadn (pc := 95) 1 (hz_dec kX12_addOrphan 60 rfl) rfl ?_
  refine hz_get (pc := 96) (v := .ref (B + 65)) (hz_dec kX12_addOrphan 61 rfl) fo_X12_215 (hz_mne (hz_mne hO (by omega)) (by omega)) h8 (by omega) (hF.2 74 (by decide) (by decide)) ?_
  refine hz_iloadn (pc := 99) 0 (hz_dec kX12_addOrphan 62 rfl) rfl ?_
  refine hz_iconst (pc := 100) (v := nI 1) (hz_dec kX12_addOrphan 63 rfl) (by decide) ?_
  refine hz_iast (pc := 101) (j := (8 * v) + ((loD lo).length)) (hz_dec kX12_addOrphan 64 rfl) (hz_mne (hz_mne hE.a65 (by omega)) (by omega)) (by omega) (by omega) rfl (by omega) (by decide) ?_
  refine hz_iconst (pc := 102) (v := nI 0) (hz_dec kX12_addOrphan 65 rfl) (by decide) ?_
  refine hz_istoren (pc := 103) (i := 3) (lo2 := [(3, .int (nI 0)), (2, .int (nI ((8 * v) + ((loD lo).length)))), (0, .ref B), (1, .int (nI v))]) (hz_dec kX12_addOrphan 66 rfl) rfl (by decide) rfl ?_
  refine hz_pick (pc := 104) [0, 1, 2, 3] rfl ?_
  have p64 : fA (va_up (va_up (va_up M (B + 67) (.inl (0, 6, .inl (upd (fA M B 67) v ((nI (((loD lo).length) + 1))))))) (B + 64) (.inl (0, 48, .inl (upd (fA M B 64) ((8 * v) + ((loD lo).length)) ((nI (l.length))))))) (B + 65) (.inl (0, 48, .inl (upd (fA M B 65) ((8 * v) + ((loD lo).length)) ((nI (1))))))) B 64 = upd (fA M B 64) ((8 * v) + ((loD lo).length)) ((nI (l.length))) := fA_of (hz_mne (va_up_self _ _ _) (by omega))
  have p65 : fA (va_up (va_up (va_up M (B + 67) (.inl (0, 6, .inl (upd (fA M B 67) v ((nI (((loD lo).length) + 1))))))) (B + 64) (.inl (0, 48, .inl (upd (fA M B 64) ((8 * v) + ((loD lo).length)) ((nI (l.length))))))) (B + 65) (.inl (0, 48, .inl (upd (fA M B 65) ((8 * v) + ((loD lo).length)) ((nI (1))))))) B 65 = upd (fA M B 65) ((8 * v) + ((loD lo).length)) ((nI (1))) := fA_of (va_up_self _ _ _)
  have p67 : fA (va_up (va_up (va_up M (B + 67) (.inl (0, 6, .inl (upd (fA M B 67) v ((nI (((loD lo).length) + 1))))))) (B + 64) (.inl (0, 48, .inl (upd (fA M B 64) ((8 * v) + ((loD lo).length)) ((nI (l.length))))))) (B + 65) (.inl (0, 48, .inl (upd (fA M B 65) ((8 * v) + ((loD lo).length)) ((nI (1))))))) B 67 = upd (fA M B 67) v ((nI (((loD lo).length) + 1))) := fA_of (hz_mne (hz_mne (va_up_self _ _ _) (by omega)) (by omega))
  have e9 : ∀ o, ¬ o = 64 → ¬ o = 65 → ¬ o = 67 → fA (va_up (va_up (va_up M (B + 67) (.inl (0, 6, .inl (upd (fA M B 67) v ((nI (((loD lo).length) + 1))))))) (B + 64) (.inl (0, 48, .inl (upd (fA M B 64) ((8 * v) + ((loD lo).length)) ((nI (l.length))))))) (B + 65) (.inl (0, 48, .inl (upd (fA M B 65) ((8 * v) + ((loD lo).length)) ((nI (1))))))) B o = fA M B o := fun o h1 h2 h3 => fA_c (hz_mne (hz_mne (hz_mne rfl (by omega)) (by omega)) (by omega))
  have ho9 : oeO M (va_up (va_up (va_up M (B + 67) (.inl (0, 6, .inl (upd (fA M B 67) v ((nI (((loD lo).length) + 1))))))) (B + 64) (.inl (0, 48, .inl (upd (fA M B 64) ((8 * v) + ((loD lo).length)) ((nI (l.length))))))) (B + 65) (.inl (0, 48, .inl (upd (fA M B 65) ((8 * v) + ((loD lo).length)) ((nI (1))))))) B (8 * v + (loD lo).length) := ⟨fun y hy => by rw [p64, upd_o hy], fun y hy => by rw [p65, upd_o hy], fun y hy => by rw [e9 66 (by decide) (by decide) (by decide)], fun y hy => by rw [e9 63 (by decide) (by decide) (by decide)]⟩
  refine c_aO_h hO_ hE0 h8 hz hv hol0 hlw hW hA0 h390 h530 hno 32 0 _ rfl (by omega) (((hfr.upA (o := 67) rfl (by decide)).upA (o := 64) rfl (by decide)).upA (o := 65) rfl (by decide)) (((hE.upA (by decide)).upA (by decide)).upA (by decide)) (((hag.upA (s := 1) (by decide) (by decide) (fun x hx => upd_o (by omega))).upA (s := 8) (by decide) (by decide) (fun x hx => (upd_o (by omega)).trans (by rw [fA_c (hz_mne rfl (by omega))]))).upA (s := 8) (by decide) (by decide) (fun x hx => (upd_o (by omega)).trans (by rw [fA_c (hz_mne (hz_mne rfl (by omega)) (by omega))]))) (by rw [p67, upd_s]) (fun k hk => ?_) (by rw [p64, upd_s]) (by rw [p65, upd_s]) (fun q hq => absurd hq (by omega))
  refine ho9.x (by omega) (by have q := (hdw.2 k hk).len; show (rowL (loD lo) k).length ≤ 4000; omega) ?_
  have q := hol.2 k (by rw [mkO_len]; exact hk)
  rw [orL_mk _ hk] at q
  exact q
set_option maxHeartbeats 4000000 in
set_option maxRecDepth 100000 in
theorem c_aO_s {κ : hz_C} {z : Nat} {M0 : hz_M} {B : Nat} (hO_ : md_O M0 B) (hE0 : mdE M0 B) (h8 : 8 ≤ B) (hz : B + 88 ≤ z) {v : Nat} (hv : v < 6) {lo : List by_L} (hol0 : orX (fA M0 B) v (mkO lo)) (hlw : loW lo) {l : by_L} (hW : blW l) (hA0 : isA (fA M0 B 35) 0 l) (h390 : fdB M0 B 39 = some (.int (nI l.length))) (h530 : isA (fA M0 B 53) 0 (haS l)) : ∀ k i, k = lo.length - i → i ≤ lo.length → (∀ j, j < i → smS (haS (rowL lo j)) (haS l) = false) → hz_W κ xX12_addOrphan 1 0 0 (fun r z2 M2 => some (.int (hz_b (!isLo lo (haS l)))) = r ∧ z = z2 ∧ mfr B [] [63, 64, 65, 66, 67] M0 M2 ∧ mdE M2 B ∧ agV M0 M2 B v ∧ orX (fA M2 B) v (mkO (loA lo l))) 0 0 2 [(2, .int (nI i)), (0, .ref B), (1, .int (nI v))] [] z M0 := by
  intro k
  induction k using Nat.strongRecOn with
  | ind k ih =>
  intro i hk hi hno
  obtain ⟨fs, hO, hF⟩ := id hO_
  have hl8 := hlw.1
  have h67 := hol0.1
  rw [mkO_len] at h67
  refine hz_iloadn (pc := 2) 0 (hz_dec kX12_addOrphan 2 rfl) rfl ?_
  refine hz_aloadn (pc := 3) 1 (hz_dec kX12_addOrphan 3 rfl) rfl ?_
  refine hz_get (pc := 4) (v := .ref (B + 67)) (hz_dec kX12_addOrphan 4 rfl) fo_X12_221 hO h8 (by omega) (hF.2 76 (by decide) (by decide)) ?_
  refine hz_iloadn (pc := 7) 2 (hz_dec kX12_addOrphan 5 rfl) rfl ?_
  refine hz_iald (pc := 8) (j := v) (hz_dec kX12_addOrphan 6 rfl) hE0.a67 (by omega) (by omega) rfl (by omega) (by decide) ?_
  refine hz_eqi (pc := 9) h67 ?_
  refine hz_n_ge (pc := 9) (tgt := 46) (hz_dec kX12_addOrphan 7 rfl) (by decide) (by omega) (by omega) (fun h1 => ?_) (fun h1 => ?_)
  · skip
    have e : i = lo.length := by omega
    have en_ : isLo lo (haS l) = false := by unfold isLo; rw [fsI_no (p := fun k => smS (haS (rowL lo k)) (haS l)) _ (fun j hj => hno j (by omega))]; exact decide_eq_false (by omega)
    refine hz_pick (pc := 46) [1, 2] rfl ?_
    refine hz_aloadn (pc := 46) 0 (hz_dec kX12_addOrphan 27 rfl) rfl ?_
    refine hz_get (pc := 47) (v := .ref (B + 67)) (hz_dec kX12_addOrphan 28 rfl) fo_X12_221 hO h8 (by omega) (hF.2 76 (by decide) (by decide)) ?_
    refine hz_iloadn (pc := 50) 1 (hz_dec kX12_addOrphan 29 rfl) rfl ?_
    refine hz_iald (pc := 51) (j := v) (hz_dec kX12_addOrphan 30 rfl) hE0.a67 (by omega) (by omega) rfl (by omega) (by decide) ?_
    refine hz_eqi (pc := 52) h67 ?_
    refine hz_bipush (pc := 52) (v := nI 8) (hz_dec kX12_addOrphan 31 rfl) (by decide) ?_
    refine hz_n_ne (pc := 54) (tgt := 63) (hz_dec kX12_addOrphan 32 rfl) (by decide) (by omega) (by omega) (fun h3 => ?_) (fun h3 => ?_)
    · skip
      exact c_aO_n hO_ hE0 h8 hz hv hol0 hlw hW hA0 h390 h530 en_ (mfr.rf hO_) hE0 agV.rf (by unfold loD; rw [if_neg h3]; exact hol0)
    · skip
      refine hz_aloadn (pc := 57) 0 (hz_dec kX12_addOrphan 33 rfl) rfl ?_
      refine hz_iloadn (pc := 58) 1 (hz_dec kX12_addOrphan 34 rfl) rfl ?_
      refine hz_iconst (pc := 59) (v := nI 0) (hz_dec kX12_addOrphan 35 rfl) (by decide) ?_
      refine hz_callV (pc := 60) (a := B) (As := [.int (nI v), .int (nI 0)]) (st := []) (hz_dec kX12_addOrphan 36 rfl) co_X12_585 im_X12_dropOrphan se_X12_dropOrphan rfl hO h8 (by omega) (c_dO hO_ hE0 h8 hz hv hol0 (orW_mk hlw) (k0 := 0) (by rw [mkO_len]; omega)) rfl (by decide) ⟨Nat.le_refl _, Nat.le_refl _⟩ (Nat.le_of_ble_eq_true rfl) rfl (fun r9 z9 M2 hp9 => ?_)
      obtain ⟨rfl, rfl, hf2, hE2, hag2, hol2⟩ := hp9
      exact c_aO_n hO_ hE0 h8 hz hv hol0 hlw hW hA0 h390 h530 en_ hf2 hE2 hag2 (by unfold loD; rw [if_pos h3, ← mkO_er]; exact hol2)
  · skip
    have h66 : isA (fA M0 B 66) (32 * (8 * v + i)) (haS (rowL lo i)) := by have q := (hol0.2 i (by rw [mkO_len]; exact h1)).2.2.1; rw [orL_mk lo h1] at q; exact q
    refine hz_aloadn (pc := 12) 1 (hz_dec kX12_addOrphan 8 rfl) rfl ?_
    refine hz_get (pc := 13) (v := .ref (B + 66)) (hz_dec kX12_addOrphan 9 rfl) fo_X12_218 hO h8 (by omega) (hF.2 75 (by decide) (by decide)) ?_
    refine hz_bipush (pc := 16) (v := nI 32) (hz_dec kX12_addOrphan 10 rfl) (by decide) ?_
    refine hz_bipush (pc := 18) (v := nI 8) (hz_dec kX12_addOrphan 11 rfl) (by decide) ?_
    refine hz_iloadn (pc := 20) 2 (hz_dec kX12_addOrphan 12 rfl) rfl ?_
    refine hz_mulN (pc := 21) (hz_dec kX12_addOrphan 13 rfl) ?_
    refine hz_iloadn (pc := 22) 0 (hz_dec kX12_addOrphan 14 rfl) rfl ?_
    refine hz_addN (pc := 23) (hz_dec kX12_addOrphan 15 rfl) ?_
    refine hz_mulN (pc := 24) (hz_dec kX12_addOrphan 16 rfl) ?_
    refine hz_aloadn (pc := 25) 1 (hz_dec kX12_addOrphan 17 rfl) rfl ?_
    refine hz_get (pc := 26) (v := .ref (B + 53)) (hz_dec kX12_addOrphan 18 rfl) fo_X12_177 hO h8 (by omega) (hF.2 62 (by decide) (by decide)) ?_
    refine hz_iconst (pc := 29) (v := nI 0) (hz_dec kX12_addOrphan 19 rfl) (by decide) ?_
    refine hz_bipush (pc := 30) (v := nI 32) (hz_dec kX12_addOrphan 20 rfl) (by decide) ?_
    refine hz_xS (pc := 32) (As := [.ref (B + 66), .int (nI (32 * ((8 * v) + i))), .ref (B + 53), .int (nI 0), .int (nI 32)]) (st := []) (hz_dec kX12_addOrphan 21 rfl) co_X12_456 sc_X12_sameBytes (c_sameB hE0.a66 (by omega) (by omega) (by decide) hE0.a53 (by omega) (by omega) (by decide) (by omega) (by omega)) rfl (by decide) ⟨Nat.le_refl _, Nat.le_refl _⟩ (Nat.le_of_ble_eq_true rfl) rfl ?_
    refine hz_eqi (pc := 35) (show _ = hz_b (smS (haS (rowL lo i)) (haS l)) by rw [smS_of h66 h530 (haS_len _) (haS_len _)]) ?_
    refine hz_if_eq (pc := 35) (tgt := 40) (hz_dec kX12_addOrphan 22 rfl) (by decide) (fun h2 => ?_) (fun h2 => ?_)
    · skip
      refine hz_incN (pc := 40) (i := 2) (lo2 := [(2, .int (nI (i + 1))), (0, .ref B), (1, .int (nI v))]) 0 (hz_dec kX12_addOrphan 25 rfl) rfl (by decide) rfl ?_
      refine hz_goto (pc := 43) (tgt := 2) (hz_dec kX12_addOrphan 26 rfl) (by decide) ?_
      refine hz_pick (pc := 2) [0, 1, 2] rfl ?_
      refine ih (lo.length - (i + 1)) (by omega) (i + 1) rfl (by omega) (fun j hj => ?_)
      rcases (show j = i ∨ j < i by omega) with e | c
      · rw [e]; exact hz_b0 h2
      · exact hno j c
    · skip
      have ey : isLo lo (haS l) = true := by unfold isLo; rw [fsI_at (i := i) (p := fun k => smS (haS (rowL lo k)) (haS l)) (hz_b1 h2) hno _ h1]; exact decide_eq_true h1
      refine hz_iconst (pc := 38) (v := nI 0) (hz_dec kX12_addOrphan 23 rfl) (by decide) ?_
      exact hz_zret (pc := 39) (hz_dec kX12_addOrphan 24 rfl) rfl rfl ⟨by rw [ey]; rfl, rfl, mfr.rf hO_, hE0, agV.rf, by unfold loA; rw [if_pos ey]; exact hol0⟩
set_option maxHeartbeats 4000000 in
set_option maxRecDepth 100000 in
theorem c_aO {κ : hz_C} {z : Nat} {M : hz_M} {B : Nat} (hO_ : md_O M B) (hE0 : mdE M B) (h8 : 8 ≤ B) (hz : B + 88 ≤ z) {v : Nat} (hv : v < 6) {lo : List by_L} (hol0 : orX (fA M B) v (mkO lo)) (hlw : loW lo) {l : by_L} (hW : blW l) (hA0 : isA (fA M B 35) 0 l) (h390 : fdB M B 39 = some (.int (nI l.length))) (h530 : isA (fA M B 53) 0 (haS l)) : hz_Mt κ xX12_addOrphan 1 0 0 [.ref B, .int (nI v)] z M (fun r z2 M2 => some (.int (hz_b (!isLo lo (haS l)))) = r ∧ z = z2 ∧ mfr B [] [63, 64, 65, 66, 67] M M2 ∧ mdE M2 B ∧ agV M M2 B v ∧ orX (fA M2 B) v (mkO (loA lo l))) := by
  refine hz_ent (lo := [(0, .ref B), (1, .int (nI v))]) (by decide) (Nat.le_of_ble_eq_true rfl) rfl ?_
  refine hz_iconst (pc := 0) (v := nI 0) (hz_dec kX12_addOrphan 0 rfl) (by decide) ?_
  refine hz_istoren (pc := 1) (i := 2) (lo2 := [(2, .int (nI 0)), (0, .ref B), (1, .int (nI v))]) (hz_dec kX12_addOrphan 1 rfl) rfl (by decide) rfl ?_
  refine hz_pick (pc := 2) [0, 1, 2] rfl ?_
  exact c_aO_s hO_ hE0 h8 hz hv hol0 hlw hW hA0 h390 h530 lo.length 0 rfl (Nat.zero_le _) (fun j hj => absurd hj (by omega))
