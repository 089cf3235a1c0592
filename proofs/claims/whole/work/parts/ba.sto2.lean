/-! the reference: store -/
/-- nobody else's coins are spoilt -/
def cvW (M M2 : hz_M) (B v : Nat) : Prop := ∀ w b e, w < 6 → w ≠ v → cvX M B w b e → cvX M2 B w b e
theorem cvW.rf {M : hz_M} {B v : Nat} : cvW M M B v := fun _ _ _ _ _ h => h
theorem cvW.tr {M M2 M3 : hz_M} {B v : Nat} (h : cvW M M2 B v) (h2 : cvW M2 M3 B v) : cvW M M3 B v := fun w b e hw hv q => h2 w b e hw hv (h w b e hw hv q)
theorem cvK.w {M M2 : hz_M} {B v : Nat} {bl : List bk_B} {en : List en_E} (h : cvK M M2 B v bl en) : cvW M M2 B v := fun w b e hw hv q => h w b e hw (fun c => absurd c hv) q
theorem cvW.no {M M2 : hz_M} {B v : Nat} {cb : Int32} (h54 : fdB M2 B 54 = some (.int (-1))) (h55 : fdB M2 B 55 = some (.int cb)) : cvW M M2 B v := fun w b e hw _ _ => cvX_no hw h54 h55
/-- what the reference has beside the nodes -/
def mgR (M : hz_M) (B nn : Nat) (now : Int32) (dl : Nat → Nat) (s : mq_S) : Prop := fdB M B 1 = some (.int (nI nn)) ∧ mdD M B dl ∧ mqR M B s.1 now s.2
theorem mgR.mf {M M2 : hz_M} {B nn : Nat} {now : Int32} {dl : Nat → Nat} {s : mq_S} {ks os : List Nat} (h : mgR M B nn now dl s) (f : mfr B ks os M M2) (hk : [1, 86, 87, 88, 89].all (fun o => !ks.elem o) = true) (ho : [69, 70, 71, 72, 73, 74, 75, 76].all (fun o => !os.elem o) = true) : mgR M2 B nn now dl s := by
  have hkk := List.all_eq_true.mp hk
  have hoo := List.all_eq_true.mp ho
  have nk : ∀ o, o ∈ [1, 86, 87, 88, 89] → ks.elem o = false := fun o h9 => by have q := hkk o h9; cases e : ks.elem o with
    | false => rfl
    | true => rw [e] at q; cases q
  have no : ∀ o, o ∈ [69, 70, 71, 72, 73, 74, 75, 76] → os.elem o = false := fun o h9 => by have q := hoo o h9; cases e : os.elem o with
    | false => rfl
    | true => rw [e] at q; cases q
  refine ⟨(f.2.2 1 (nk 1 (by decide))).trans h.1, ?_, h.2.2.mf f ?_ ?_⟩
  · unfold mdD
    rw [fA_m f (by decide) (no 69 (by decide))]
    exact h.2.1
  · refine List.all_eq_true.mpr (fun o h9 => ?_)
    rw [nk o (by revert h9; revert o; decide)]
    rfl
  · refine List.all_eq_true.mpr (fun o h9 => ?_)
    rw [no o (by revert h9; revert o; decide)]
    rfl
/-- the reference's side of a node's state, its orphans aside -/
def mnP (M : hz_M) (B v : Nat) (bl : List bk_B) (nx : Nat) : Prop := ∀ k, k < bl.length → fA M B 24 (128 * v + k) = -1 ∨ ∃ p, fA M B 24 (128 * v + k) = nI p ∧ p + (bBy bl k).length + 6 ≤ nx
def mnS (M : hz_M) (B v : Nat) (up : Int32) (S : ks_S) (fz : Int32) (po : List po_P) : Prop := fA M B 16 v = up ∧ (∀ j, j < 12288 → fA M B 17 (12288 * v + j) = ksD S j) ∧ fA M B 18 v = nI (ksN S) ∧ fA M B 19 v = fz ∧ mnB M B v (ksB S) (enB (ksB S)) (ksT S) ∧ poX (fA M B) (fL M B) v po ∧ cvX M B v (ksB S) (enB (ksB S)) ∧ mnP M B v (ksB S) (ksN S)
theorem mnS.mf {M M2 : hz_M} {B v : Nat} {up fz : Int32} {S : ks_S} {po : List po_P} {ks os : List Nat} (h : mnS M B v up S fz po) (f : mfr B ks os M M2) (hk : [53, 54, 55].all (fun o => !ks.elem o) = true) (ho : [16, 17, 18, 19, 20, 21, 24, 25, 26, 27, 28, 29, 30, 31, 32, 33, 34, 38, 39, 40, 41, 43, 44, 45, 46, 47, 48, 51, 54, 55, 56, 57, 58].all (fun o => !os.elem o) = true) : mnS M2 B v up S fz po := by
  have hkk := List.all_eq_true.mp hk
  have hoo := List.all_eq_true.mp ho
  have nk : ∀ o, o ∈ [53, 54, 55] → ks.elem o = false := fun o h9 => by have q := hkk o h9; cases e : ks.elem o with
    | false => rfl
    | true => rw [e] at q; cases q
  have no : ∀ o, o ∈ [16, 17, 18, 19, 20, 21, 24, 25, 26, 27, 28, 29, 30, 31, 32, 33, 34, 38, 39, 40, 41, 43, 44, 45, 46, 47, 48, 51, 54, 55, 56, 57, 58] → os.elem o = false := fun o h9 => by have q := hoo o h9; cases e : os.elem o with
    | false => rfl
    | true => rw [e] at q; cases q
  obtain ⟨h1, h2, h3, h4, h5, h6, ⟨cn, cb, q1, q2, q3⟩, h7⟩ := h
  refine ⟨by rw [fA_m f (by decide) (no 16 (by decide))]; exact h1, by rw [fA_m f (by decide) (no 17 (by decide))]; exact h2, by rw [fA_m f (by decide) (no 18 (by decide))]; exact h3, by rw [fA_m f (by decide) (no 19 (by decide))]; exact h4, h5.mf f ?_, h6.mf f ?_, ⟨cn, cb, (f.2.2 54 (nk 54 (by decide))).trans q1, (f.2.2 55 (nk 55 (by decide))).trans q2, fun c => ?_⟩, by unfold mnP; rw [fA_m f (by decide) (no 24 (by decide))]; exact h7⟩
  · refine List.all_eq_true.mpr (fun o h9 => ?_)
    rw [no o (by revert h9; revert o; decide)]
    rfl
  · refine List.all_eq_true.mpr (fun o h9 => ?_)
    rw [no o (by revert h9; revert o; decide)]
    rfl
  · obtain ⟨x, x1, x2, x3⟩ := q3 c
    refine ⟨x, x1, x2, x3.fr f (nk 53 (by decide)) ?_⟩
    refine List.all_eq_true.mpr (fun o h9 => ?_)
    rw [no o (by revert h9; revert o; decide)]
    rfl
def msQ (M : hz_M) (z B nn v : Nat) (now : Int32) (dl : Nat → Nat) (ol : List or_O) (R : ks_S × Bool) : hz_P := fun r z2 M2 => none = r ∧ z = z2 ∧ mfr B [16, 39, 53, 54, 55, 59, 61, 86, 87, 88] [3, 4, 5, 6, 7, 8, 9, 10, 11, 12, 13, 14, 15, 16, 17, 18, 19, 20, 21, 24, 25, 26, 27, 28, 29, 30, 31, 32, 33, 35, 36, 42, 43, 44, 45, 46, 47, 48, 49, 50, 51, 52, 53, 54, 55, 56, 57, 58, 59, 60, 61, 62, 63, 64, 65, 66, 67, 68, 70, 71, 72, 73, 74, 75, 76] M M2 ∧ mdE M2 B ∧ agV M M2 B v ∧ cvW M M2 B v ∧ mgR M2 B nn now dl (ksQ R.1) ∧ (R.2 = true → mnS M2 B v 1 R.1 (pvI (ksF R.1)) (ksP R.1) ∧ ∃ ol2, olX ol ol2 ∧ ksL R.1 = loO ol2 ∧ orX (fA M2 B) v ol2) ∧ (R.2 = false → mnS M2 B v 0 R.1 (-1) [] ∧ orX (fA M2 B) v [])
/-- the body and what the judge left of it -/
def msJ (M : hz_M) (B : Nat) (bl : List bk_B) (l : by_L) : Prop := isA (fA M B 35) 0 l ∧ fdB M B 39 = some (.int (nI l.length)) ∧ isA (fA M B 53) 0 (haS l) ∧ fdB M B 61 = some (.int (nI (pvF bl l)))
def msC (κ : hz_C) (z B nn v : Nat) (now but : Int32) (dl : Nat → Nat) (f : Nat) : Prop := ∀ S l M ol, md_k B M z → mdE M B → mgR M B nn now dl (ksQ S) → mnS M B v 1 S (pvI (ksF S)) (ksP S) → orX (fA M B) v ol → orW ol → stX ol (ksB S) → ksL S = loO ol → msJ M B (ksB S) l → ksI S → ksJ S l = 0 → (ksL S).length < f → hz_Mt κ xX12_store (f + 11) 0 0 [.ref B, .int (nI v), .int but] z M (msQ M z B nn v now dl ol (kp nn dl now v but f S l))
set_option maxHeartbeats 4000000 in
set_option maxRecDepth 100000 in
theorem c_st_b {κ : hz_C} {z B nn v : Nat} {now but : Int32} {dl : Nat → Nat} (h8 : 8 ≤ B) (hz : B + 88 ≤ z) (hnn : nn ≤ 6) (hvn : v < nn) {f kk i : Nat} (hi : i < 8) {l : by_L} (hl : l.length ≤ 2945) {M0 : hz_M} (h63 : isA (fA M0 B 63) (4000 * (8 * v + i)) l) (h39 : fdB M0 B 39 = some (.int (nI l.length))) {P : hz_P} (K : ∀ M, mfr B [] [35] M0 M → mdE M B → isA (fA M B 35) 0 l → hz_W κ xX12_store (f + 12) 0 0 P 0 0 331 [(9, .int (nI (8 * v + i))), (8, .int (nI i)), (7, .int (nI 1)), (4, .int (nI kk)), (0, .ref B), (1, .int (nI v)), (2, .int but)] [] z M) : ∀ k j M, k = l.length - j → j ≤ l.length → mfr B [] [35] M0 M → mdE M B → (∀ q, q < j → fA M B 35 q = lf l q) → hz_W κ xX12_store (f + 12) 0 0 P 0 0 295 [(10, .int (nI j)), (9, .int (nI (8 * v + i))), (8, .int (nI i)), (7, .int (nI 1)), (4, .int (nI kk)), (0, .ref B), (1, .int (nI v)), (2, .int but)] [] z M := by
  intro k
  induction k using Nat.strongRecOn with
  | ind k ih =>
  intro j M hk hj hfr hE h35
  obtain ⟨fs, hO, hF⟩ := id hfr.2.1
  have g39 : fs[39]? = some (.int (nI l.length)) := (fdB_of hO 39).symm.trans ((hfr.2.2 39 rfl).trans h39)
  have hA : isA (fA M B 63) (4000 * (8 * v + i)) l := by rw [fA_m hfr (by decide) rfl]; exact h63
  refine hz_bytes hE.a63 (by omega) (by omega) (fun hby => ?_)
  refine hz_iload (pc := 295) 0 (hz_dec kX12_store 168 rfl) rfl ?_
  refine hz_aloadn (pc := 297) 5 (hz_dec kX12_store 169 rfl) rfl ?_
  refine hz_get (pc := 298) (v := .int (nI (l.length))) (hz_dec kX12_store 170 rfl) fo_X12_422 hO h8 (by omega) g39 ?_
  refine hz_n_ge (pc := 301) (tgt := 331) (hz_dec kX12_store 171 rfl) (by decide) (by omega) (by omega) (fun h1 => ?_) (fun h1 => ?_)
  · skip
    have e : j = l.length := by omega
    refine hz_pick (pc := 331) [1, 2, 3, 4, 5, 6, 7] rfl ?_
    exact K M hfr hE (fun q hq => by rw [Nat.zero_add]; exact h35 q (by omega))
  · skip
    refine hz_aloadn (pc := 304) 5 (hz_dec kX12_store 172 rfl) rfl ?_
    refine hz_get (pc := 305) (v := .ref (B + 35)) (hz_dec kX12_store 173 rfl) fo_X12_116 hO h8 (by omega) (hF.2 38 (by decide) (by decide)) ?_
    refine hz_iload (pc := 308) 0 (hz_dec kX12_store 174 rfl) rfl ?_
    refine hz_aloadn (pc := 310) 5 (hz_dec kX12_store 175 rfl) rfl ?_
    refine hz_get (pc := 311) (v := .ref (B + 63)) (hz_dec kX12_store 176 rfl) fo_X12_209 hO h8 (by omega) (hF.2 72 (by decide) (by decide)) ?_
    refine hz_sipush (pc := 314) (v := nI 4000) (hz_dec kX12_store 177 rfl) (by decide) ?_
    refine hz_iload (pc := 317) 1 (hz_dec kX12_store 178 rfl) rfl ?_
    refine hz_mulN (pc := 319) (hz_dec kX12_store 179 rfl) ?_
    refine hz_iload (pc := 320) 0 (hz_dec kX12_store 180 rfl) rfl ?_
    refine hz_addN (pc := 322) (hz_dec kX12_store 181 rfl) ?_
    refine hz_bald (pc := 323) (j := (4000 * (8 * v + i)) + j) (hz_dec kX12_store 182 rfl) hE.a63 (by omega) (by omega) rfl (by omega) (by decide) ?_
    refine hz_bast (pc := 324) (j := j) (hz_dec kX12_store 183 rfl) hE.a35 (by omega) (by omega) rfl (by omega) (by decide) ?_
    refine hz_incN (pc := 325) (i := 10) (lo2 := [(10, .int (nI (j + 1))), (9, .int (nI (8 * v + i))), (8, .int (nI i)), (7, .int (nI 1)), (4, .int (nI kk)), (0, .ref B), (1, .int (nI v)), (2, .int but)]) 0 (hz_dec kX12_store 184 rfl) rfl (by decide) rfl ?_
    refine hz_goto (pc := 328) (tgt := 295) (hz_dec kX12_store 185 rfl) (by decide) ?_
    refine hz_pick (pc := 295) [0, 1, 2, 3, 4, 5, 6, 7] rfl ?_
    refine ih (l.length - (j + 1)) (by omega) (j + 1) _ rfl (by omega) (hfr.upA (o := 35) rfl (by decide)) (hE.upA (by decide)) ?_
    rw [fA_of (va_up_self _ _ _)]
    intro q hq
    rcases (show q = j ∨ q < j by omega) with e | c
    · rw [e, upd_s, hby _ (by omega)]; exact hA j h1
    · rw [upd_o (by omega)]; exact h35 q c
