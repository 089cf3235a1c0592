/-! the reference: shapes of changed arrays; judgeParts -/
def shO (M : hz_M) (B o : Nat) : Prop := (∀ p ∈ mdS, p.1 = o → ∃ g : Nat → Int32, M (B + o) = .inl (p.2.1, p.2.2, .inl g)) ∧ ∀ p ∈ mdL, p.1 = o → ∃ g : Nat → Int64, M (B + o) = .inl (2, p.2, .inr (.inl g))
theorem shoA {M : hz_M} {B o t n : Nat} {g : Nat → Int32} (hm : (o, t, n) ∈ mdS) (h : M (B + o) = .inl (t, n, .inl g)) : shO M B o := by
  refine ⟨fun p hp e => ?_, fun p hp e => ?_⟩
  · have q : ∀ p ∈ mdS, ∀ q ∈ mdS, p.1 = q.1 → p = q := by decide +kernel
    have r := q p hp _ hm e
    subst r
    exact ⟨g, h⟩
  · have q : ∀ p ∈ mdL, ∀ q ∈ mdS, ¬ p.1 = q.1 := by decide +kernel
    exact absurd e (q p hp _ hm)
theorem shoL {M : hz_M} {B o n : Nat} {g : Nat → Int64} (hm : (o, n) ∈ mdL) (h : M (B + o) = .inl (2, n, .inr (.inl g))) : shO M B o := by
  refine ⟨fun p hp e => ?_, fun p hp e => ?_⟩
  · have q : ∀ p ∈ mdS, ∀ q ∈ mdL, ¬ p.1 = q.1 := by decide +kernel
    exact absurd e (q p hp _ hm)
  · have q : ∀ p ∈ mdL, ∀ q ∈ mdL, p.1 = q.1 → p = q := by decide +kernel
    have r := q p hp _ hm e
    subst r
    exact ⟨g, h⟩
theorem mdE.gen {M M2 : hz_M} {B : Nat} {ks os A E : List Nat} (h : mdE M B) (f : mfr B ks os M M2) (hall : os.all (fun o => A.elem o || E.elem o) = true) (hA : ∀ o ∈ A, shO M2 B o) (hE : ∀ o ∈ E, shO M2 B o) : mdE M2 B := by
  have q : ∀ o, os.elem o = true → shO M2 B o := by
    intro o ho
    have r := List.all_eq_true.mp hall o (List.elem_iff.mp ho)
    rcases Bool.or_eq_true .. ▸ r with c | c
    · exact hA o (List.elem_iff.mp c)
    · exact hE o (List.elem_iff.mp c)
  exact h.fr f (fun p hp e => (q p.1 e).1 p hp rfl) (fun p hp e => (q p.1 e).2 p hp rfl)
theorem md_s.sho {M : hz_M} {B : Nat} (h : md_s B M) : ∀ o ∈ [3, 4, 5, 6, 7, 8, 9], shO M B o := by
  obtain ⟨⟨v3, q3⟩, ⟨v4, q4⟩, ⟨v5, q5⟩, ⟨v6, q6⟩, ⟨v7, q7⟩, ⟨v8, q8⟩, ⟨v9, q9⟩⟩ := h
  intro o ho
  simp only [List.mem_cons, List.not_mem_nil, or_false] at ho
  rcases ho with rfl | rfl | rfl | rfl | rfl | rfl | rfl
  · exact shoA (by decide) q3
  · exact shoA (by decide) q4
  · exact shoA (by decide) q5
  · exact shoA (by decide) q6
  · exact shoA (by decide) q7
  · exact shoL (by decide) q8
  · exact shoA (by decide) q9
theorem md_t.sho {M : hz_M} {B : Nat} (h : md_t B M) : ∀ o ∈ [10, 11, 12, 13], shO M B o := by
  obtain ⟨⟨v3, q3⟩, ⟨v4, q4⟩, ⟨v5, q5⟩, ⟨v6, q6⟩⟩ := h
  intro o ho
  simp only [List.mem_cons, List.not_mem_nil, or_false] at ho
  rcases ho with rfl | rfl | rfl | rfl
  · exact shoA (by decide) q3
  · exact shoA (by decide) q4
  · exact shoA (by decide) q5
  · exact shoA (by decide) q6
theorem mcR.sho {M : hz_M} {B : Nat} {cs : List co_C} (h : mcR M B cs) : ∀ o ∈ [43, 44, 45, 46, 47, 48], shO M B o := by
  obtain ⟨-, -, -, f1, f2, f3, f4, f5, f6, g1, g2, g3, g4, g5, g6, -⟩ := h
  intro o ho
  simp only [List.mem_cons, List.not_mem_nil, or_false] at ho
  rcases ho with rfl | rfl | rfl | rfl | rfl | rfl
  · exact shoL (by decide) g1
  · exact shoA (by decide) g2
  · exact shoL (by decide) g3
  · exact shoL (by decide) g4
  · exact shoA (by decide) g5
  · exact shoA (by decide) g6
theorem sho_n {M : hz_M} {B : Nat} : ∀ o ∈ ([] : List Nat), shO M B o := fun o ho => absurd ho (List.not_mem_nil)
theorem sho_c {M : hz_M} {B o : Nat} {E : List Nat} (h : shO M B o) (hE : ∀ o ∈ E, shO M B o) : ∀ q ∈ o :: E, shO M B q := by
  intro q hq
  rcases List.mem_cons.mp hq with rfl | c
  · exact h
  · exact hE q c
theorem sho_a {M : hz_M} {B : Nat} {A E : List Nat} (h : ∀ o ∈ A, shO M B o) (hE : ∀ o ∈ E, shO M B o) : ∀ q ∈ A ++ E, shO M B q := by
  intro q hq
  rcases List.mem_append.mp hq with c | c
  · exact h q c
  · exact hE q c
theorem mdE.hs {M M2 : hz_M} {B : Nat} {ks os : List Nat} (h : mdE M B) (f : mfr B ks os M M2) (hs : md_s B M2) (ho : os.all (fun o => [3, 4, 5, 6, 7, 8, 9].elem o || ([] : List Nat).elem o) = true) : mdE M2 B := h.gen f ho hs.sho sho_n
theorem mdE.ht {M M2 : hz_M} {B : Nat} {ks os : List Nat} (h : mdE M B) (f : mfr B ks os M M2) (hs : md_t B M2) (ho : os.all (fun o => [10, 11, 12, 13].elem o || ([] : List Nat).elem o) = true) : mdE M2 B := h.gen f ho hs.sho sho_n
/-- what the reference keeps of what is unspent is right, or marked as none -/
def ccX (M : hz_M) (B v x : Nat) (cs0 : List co_C) : Prop := ∃ cb : Int32, fdB M B 55 = some (.int cb) ∧ (fdB M B 54 = some (.int (-1)) ∨ (fdB M B 54 = some (.int (nI v)) ∧ cb = nI x ∧ mcR M B cs0))
theorem ccX.fr {M M2 : hz_M} {B v x : Nat} {cs0 : List co_C} {ks os : List Nat} (h : ccX M B v x cs0) (e : mfr B ks os M M2) (h53 : ks.elem 53 = false) (h54 : ks.elem 54 = false) (h55 : ks.elem 55 = false) (ho : [43, 44, 45, 46, 47, 48].all (fun o => !os.elem o) = true) : ccX M2 B v x cs0 := by
  obtain ⟨cb, h1, h2⟩ := h
  refine ⟨cb, (e.2.2 55 h55).trans h1, h2.elim (fun q => Or.inl ((e.2.2 54 h54).trans q)) (fun q => Or.inr ⟨(e.2.2 54 h54).trans q.1, q.2.1, q.2.2.fr e h53 ho⟩)⟩
theorem mdE.hc {M M2 : hz_M} {B : Nat} {ks os : List Nat} {cs : List co_C} (h : mdE M B) (f : mfr B ks os M M2) (hs : mcR M2 B cs) (ho : os.all (fun o => [43, 44, 45, 46, 47, 48].elem o || ([] : List Nat).elem o) = true) : mdE M2 B := h.gen f ho hs.sho sho_n
set_option maxHeartbeats 4000000 in
set_option maxRecDepth 100000 in
theorem c_jp_e {κ : hz_C} {z : Nat} {M0 : hz_M} {B : Nat} (hk0 : md_k B M0 z) (hE0 : mdE M0 B) {l : by_L} (hA : isA (fA M0 B 35) 0 l) (hl4 : l.length ≤ 4000) (hW : blW l) (h14 : ∀ j, j ≤ bkN l → fA M0 B 14 j = nI (bkS l j)) (h16 : fdB M0 B 16 = some (.int (nI (bkN l)))) {h_ : Nat} (hh : h_ < 100000) {cs0 : List co_C} {v x : Nat} {cs : List co_C} {acc : Int64} (hjn2 : jTs l h_ (bkN l - 1) 1 cs0 0 = (0, cs, acc)) : ∀ k i s M, k = txO (bkT l 0) - i → i ≤ txO (bkT l 0) → mfr B [53, 54, 55, 59] [3, 4, 5, 6, 8, 9, 43, 44, 45, 46, 47, 48, 49, 50, 52] M0 M → mdE M B → mcR M B cs → ccX M B v x cs0 → paK (bkT l 0) i = some s → hz_W κ xX12_judgeParts 8 0 0 (fun r z2 M2 => some (.int (nI (jPa l h_ cs0))) = r ∧ z = z2 ∧ mfr B [53, 54, 55, 59] [3, 4, 5, 6, 8, 9, 43, 44, 45, 46, 47, 48, 49, 50, 52] M0 M2 ∧ mdE M2 B ∧ ccX M2 B v x cs0) 0 0 178 [(9, .int (nI i)), (7, .long s), (5, .long acc), (0, .ref B), (1, .int (nI v)), (2, .int (nI h_))] [] z M := by
  intro k
  induction k using Nat.strongRecOn with
  | ind k ih =>
  intro i s M hk_ hi hfr hE hc h54 hpa
  obtain ⟨hbf1, hbf2, hbf3, hbf4, hbf5, hbf6, hbf7⟩ := hW.f
  have hln9 := hW.len
  have hk : md_k B M z := hk0.mf hfr rfl rfl
  obtain ⟨⟨fs, hO, hF⟩, -, -, h8, hz⟩ := id hk
  have hB : M (B + 35) = .inl (1, 4000, .inl (fA M0 B 35)) := (hfr.at 35 (by decide) rfl).trans hE0.a35
  have hP : M (B + 14) = .inl (0, 9, .inl (fA M0 B 14)) := (hfr.at 14 (by decide) rfl).trans hE0.a14
  have g16 : fs[16]? = some (.int (nI (bkN l))) := (fdB_of hO 16).symm.trans ((hfr.2.2 16 rfl).trans h16)
  have t0 := hW.t (j := 0) (by omega)
  have tA := hW.A hA (j := 0) (by omega)
  rw [Nat.zero_add] at tA
  obtain ⟨w1, w2, w3, w4, w5⟩ := txW_sz t0.2.1
  refine hz_bytes hB (by omega) (by omega) (fun hby => ?_)
  refine hz_iload (pc := 178) 0 (hz_dec kX12_judgeParts 101 rfl) rfl ?_
  refine hz_aloadn (pc := 180) 3 (hz_dec kX12_judgeParts 102 rfl) rfl ?_
  refine hz_get (pc := 181) (v := .ref (B + 35)) (hz_dec kX12_judgeParts 103 rfl) fo_X12_116 hO h8 (by omega) (hF.2 38 (by decide) (by decide)) ?_
  refine hz_aloadn (pc := 184) 3 (hz_dec kX12_judgeParts 104 rfl) rfl ?_
  refine hz_get (pc := 185) (v := .ref (B + 14)) (hz_dec kX12_judgeParts 105 rfl) fo_X12_51 hO h8 (by omega) (hF.2 15 (by decide) (by decide)) ?_
  refine hz_iconst (pc := 188) (v := nI 0) (hz_dec kX12_judgeParts 106 rfl) (by decide) ?_
  refine hz_iald (pc := 189) (j := 0) (hz_dec kX12_judgeParts 107 rfl) hP (by omega) (by omega) rfl (by omega) (by decide) ?_
  refine hz_eqi (pc := 190) (h14 (0) (by omega)) ?_
  refine hz_xS (pc := 190) (As := [.ref (B + 35), .int (nI (bkS l (0)))]) (st := [.int (nI i)]) (hz_dec kX12_judgeParts 108 rfl) co_X12_495 sc_X12_outputsOf (c_moutputsOf hB (by omega) (by omega) (by decide) (by omega)) rfl (by decide) ⟨Nat.le_refl _, Nat.le_refl _⟩ (Nat.le_of_ble_eq_true rfl) rfl ?_
  refine hz_eqi (pc := 193) (show _ = nI (txO (bkT l 0)) from mb_bb (hby _ (by omega)) (by rw [tA 1 (by omega)]; rfl) (by omega)) ?_
  refine hz_n_ge (pc := 193) (tgt := 249) (hz_dec kX12_judgeParts 109 rfl) (by decide) (by omega) (by omega) (fun h1 => ?_) (fun h1 => ?_)
  · skip
    have e : i = txO (bkT l 0) := by omega
    subst e
    have hps : paS (bkT l 0) = some s := hpa
    have hpv : paV (paS (bkT l 0)) = s := by rw [hps]; rfl
    have hsl := subS_le h_
    refine hz_lload (pc := 249) 1 (hz_dec kX12_judgeParts 136 rfl) rfl ?_
    refine hz_iloadn (pc := 251) 5 (hz_dec kX12_judgeParts 137 rfl) rfl ?_
    refine hz_xS (pc := 252) (As := [.int (nI h_)]) (st := [.long s]) (hz_dec kX12_judgeParts 138 rfl) co_X12_560 sc_X12_subsidy (c_msubs hh) rfl (by decide) ⟨Nat.le_refl _, Nat.le_refl _⟩ (Nat.le_of_ble_eq_true rfl) rfl ?_
    refine hz_i2l (pc := 255) (hz_dec kX12_judgeParts 139 rfl) ?_
    refine hz_eql (pc := 256) (nI_l (by omega)) ?_
    refine hz_lload (pc := 256) 2 (hz_dec kX12_judgeParts 140 rfl) rfl ?_
    refine hz_ladd (pc := 258) (hz_dec kX12_judgeParts 141 rfl) ?_
    refine hz_lcmp (pc := 259) (hz_dec kX12_judgeParts 142 rfl) ?_
    refine hz_if_le (pc := 260) (tgt := 266) (hz_dec kX12_judgeParts 143 rfl) (by decide) (fun h3 => ?_) (fun h3 => ?_)
    · skip
      have c9 : ¬ (paS (bkT l 0) = none ∨ lN (subS h_) + acc < paV (paS (bkT l 0))) := by rw [hpv, hps]; exact fun q => q.elim (fun q => by cases q) (fun q => Int64.not_lt.mpr ((lg_cmp_le _ _).mp h3) q)
      have t02 : bkS l 1 = bkS l 0 + (bkT l 0).length := t0.1
      refine hz_aloadn (pc := 266) 3 (hz_dec kX12_judgeParts 146 rfl) rfl ?_
      refine hz_aloadn (pc := 267) 3 (hz_dec kX12_judgeParts 147 rfl) rfl ?_
      refine hz_aloadn (pc := 268) 3 (hz_dec kX12_judgeParts 148 rfl) rfl ?_
      refine hz_get (pc := 269) (v := .ref (B + 35)) (hz_dec kX12_judgeParts 149 rfl) fo_X12_116 hO h8 (by omega) (hF.2 38 (by decide) (by decide)) ?_
      refine hz_aloadn (pc := 272) 3 (hz_dec kX12_judgeParts 150 rfl) rfl ?_
      refine hz_get (pc := 273) (v := .ref (B + 14)) (hz_dec kX12_judgeParts 151 rfl) fo_X12_51 hO h8 (by omega) (hF.2 15 (by decide) (by decide)) ?_
      refine hz_iconst (pc := 276) (v := nI 0) (hz_dec kX12_judgeParts 152 rfl) (by decide) ?_
      refine hz_iald (pc := 277) (j := 0) (hz_dec kX12_judgeParts 153 rfl) hP (by omega) (by omega) rfl (by omega) (by decide) ?_
      refine hz_eqi (pc := 278) (h14 (0) (by omega)) ?_
      refine hz_aloadn (pc := 278) 3 (hz_dec kX12_judgeParts 154 rfl) rfl ?_
      refine hz_get (pc := 279) (v := .ref (B + 14)) (hz_dec kX12_judgeParts 155 rfl) fo_X12_51 hO h8 (by omega) (hF.2 15 (by decide) (by decide)) ?_
      refine hz_iconst (pc := 282) (v := nI 1) (hz_dec kX12_judgeParts 156 rfl) (by decide) ?_
      refine hz_iald (pc := 283) (j := 1) (hz_dec kX12_judgeParts 157 rfl) hP (by omega) (by omega) rfl (by omega) (by decide) ?_
      refine hz_eqi (pc := 284) (h14 (1) (by omega)) ?_
      refine hz_aloadn (pc := 284) 3 (hz_dec kX12_judgeParts 158 rfl) rfl ?_
      refine hz_get (pc := 285) (v := .ref (B + 14)) (hz_dec kX12_judgeParts 159 rfl) fo_X12_51 hO h8 (by omega) (hF.2 15 (by decide) (by decide)) ?_
      refine hz_iconst (pc := 288) (v := nI 0) (hz_dec kX12_judgeParts 160 rfl) (by decide) ?_
      refine hz_iald (pc := 289) (j := 0) (hz_dec kX12_judgeParts 161 rfl) hP (by omega) (by omega) rfl (by omega) (by decide) ?_
      refine hz_eqi (pc := 290) (h14 (0) (by omega)) ?_
      refine hz_subN (pc := 290) (hz_dec kX12_judgeParts 162 rfl) (by omega) ?_
      have t01 : bkS l 1 = bkS l 0 + (bkT l 0).length := t0.1
      rw [show (bkS l (1)) - (bkS l (0)) = (bkT l 0).length by omega]
      refine hz_callV (pc := 291) (a := B) (As := [.ref (B + 35), .int (nI (bkS l (0))), .int (nI ((bkT l 0).length))]) (st := [.ref B]) (hz_dec kX12_judgeParts 163 rfl) co_X12_338 im_X12_shortOf se_X12_shortOf rfl hO h8 (by omega) (c_shortOf (n := (bkT l 0).length) hk hE.s hB (by omega) (by omega) (by decide) (by omega)) rfl (by decide) ⟨Nat.le_refl _, Nat.le_refl _⟩ (Nat.le_of_ble_eq_true rfl) rfl (fun r9 z9 M2 hp9 => ?_)
      obtain ⟨rfl, rfl, hf2, hs2, -⟩ := hp9
      refine hz_eql (pc := 294) (show _ = idS (bkT l 0) by rw [shS_of tA rfl]; rfl) ?_
      have hfB : mfr B [] [3, 4, 5] M M2 := mfr.ofl ⟨fs, hO, hF⟩ hf2 rfl
      have hfr2 : mfr B [53, 54, 55, 59] [3, 4, 5, 6, 8, 9, 43, 44, 45, 46, 47, 48, 49, 50, 52] M0 M2 := hfr.tr (hfB.mono rfl rfl)
      have hc2 : mcR M2 B cs := hc.fr hfB rfl rfl
      have hE2 : mdE M2 B := hE.hs hfB hs2 rfl
      have h542 : ccX M2 B v x cs0 := h54.fr hfB rfl rfl rfl rfl
      obtain ⟨fs2, hO2, hF2⟩ := id hc2.1
      refine hz_xV (pc := 294) (a := B) (As := [.long (idS (bkT l 0))]) (st := []) (hz_dec kX12_judgeParts 164 rfl) co_X12_527 im_X12_hasCoins se_X12_hasCoins rfl hO2 h8 (by omega) (c_mcHs hc2 h8 hz) rfl (by decide) ⟨Nat.le_refl _, Nat.le_refl _⟩ (Nat.le_of_ble_eq_true rfl) rfl ?_
      refine hz_if_eq (pc := 297) (tgt := 305) (hz_dec kX12_judgeParts 165 rfl) (by decide) (fun h4 => ?_) (fun h4 => ?_)
      · skip
        have e9 : jPa l h_ cs0 = 0 := by unfold jPa; rw [hjn2]; simp only [if_true]; rw [if_neg c9, if_neg (by rw [hz_b0 h4]; decide)]
        refine hz_iconst (pc := 305) (v := nI 0) (hz_dec kX12_judgeParts 168 rfl) (by decide) ?_
        exact hz_iret (pc := 306) (hz_dec kX12_judgeParts 169 rfl) rfl ⟨by rw [e9], rfl, hfr2, hE2, h542⟩
      · skip
        have e9 : jPa l h_ cs0 = 13 := by unfold jPa; rw [hjn2]; simp only [if_true]; rw [if_neg c9, if_pos (hz_b1 h4)]
        refine hz_bipush (pc := 300) (v := nI 13) (hz_dec kX12_judgeParts 166 rfl) (by decide) ?_
        refine hz_goto (pc := 302) (tgt := 306) (hz_dec kX12_judgeParts 167 rfl) (by decide) ?_
        exact hz_iret (pc := 306) (hz_dec kX12_judgeParts 169 rfl) rfl ⟨by rw [e9], rfl, hfr2, hE2, h542⟩
    · skip
      have e9 : jPa l h_ cs0 = 14 := by unfold jPa; rw [hjn2]; simp only [if_true]; rw [if_pos (show paS (bkT l 0) = none ∨ lN (subS h_) + acc < paV (paS (bkT l 0)) from Or.inr (by rw [hpv]; exact Int64.not_le.mp (fun q => h3 ((lg_cmp_le _ _).mpr q))))]
      refine hz_bipush (pc := 263) (v := nI 14) (hz_dec kX12_judgeParts 144 rfl) (by decide) ?_
      exact hz_iret (pc := 265) (hz_dec kX12_judgeParts 145 rfl) rfl ⟨by rw [e9], rfl, hfr, hE, h54⟩
  · skip
    have hf0 : bb (fA M0 B 35 (bkS l 0)) = txI (bkT l 0) := by have q := tA 0 (by omega); rw [Nat.add_zero] at q; rw [q]; rfl
    have ho : ouA (bkT l 0) i + 16 ≤ (bkT l 0).length := by unfold ouA; omega
    refine hz_aloadn (pc := 196) 3 (hz_dec kX12_judgeParts 110 rfl) rfl ?_
    refine hz_get (pc := 197) (v := .ref (B + 35)) (hz_dec kX12_judgeParts 111 rfl) fo_X12_116 hO h8 (by omega) (hF.2 38 (by decide) (by decide)) ?_
    refine hz_aloadn (pc := 200) 3 (hz_dec kX12_judgeParts 112 rfl) rfl ?_
    refine hz_get (pc := 201) (v := .ref (B + 14)) (hz_dec kX12_judgeParts 113 rfl) fo_X12_51 hO h8 (by omega) (hF.2 15 (by decide) (by decide)) ?_
    refine hz_iconst (pc := 204) (v := nI 0) (hz_dec kX12_judgeParts 114 rfl) (by decide) ?_
    refine hz_iald (pc := 205) (j := 0) (hz_dec kX12_judgeParts 115 rfl) hP (by omega) (by omega) rfl (by omega) (by decide) ?_
    refine hz_eqi (pc := 206) (h14 (0) (by omega)) ?_
    refine hz_iload (pc := 206) 0 (hz_dec kX12_judgeParts 116 rfl) rfl ?_
    refine hz_xS (pc := 208) (As := [.ref (B + 35), .int (nI (bkS l (0))), .int (nI i)]) (st := []) (hz_dec kX12_judgeParts 117 rfl) co_X12_498 sc_X12_outputAt (c_moutputAt hB (by omega) (by omega) (by decide) (by omega) (by omega)) rfl (by decide) ⟨Nat.le_refl _, Nat.le_refl _⟩ (Nat.le_of_ble_eq_true rfl) rfl ?_
    refine hz_eqi (pc := 211) (show _ = nI (bkS l 0 + ouA (bkT l 0) i) by rw [hf0]; unfold ouA; congr 1; omega) ?_
    refine hz_istore (pc := 211) (i := 10) (lo2 := [(10, .int (nI (bkS l 0 + ouA (bkT l 0) i))), (9, .int (nI i)), (7, .long s), (5, .long acc), (0, .ref B), (1, .int (nI v)), (2, .int (nI h_))]) (hz_dec kX12_judgeParts 118 rfl) (by decide) rfl ?_
    refine hz_aloadn (pc := 213) 4 (hz_dec kX12_judgeParts 119 rfl) rfl ?_
    refine hz_aloadn (pc := 214) 4 (hz_dec kX12_judgeParts 120 rfl) rfl ?_
    refine hz_get (pc := 215) (v := .ref (B + 35)) (hz_dec kX12_judgeParts 121 rfl) fo_X12_116 hO h8 (by omega) (hF.2 38 (by decide) (by decide)) ?_
    refine hz_iload (pc := 218) 0 (hz_dec kX12_judgeParts 122 rfl) rfl ?_
    refine hz_xV (pc := 220) (a := B) (As := [.ref (B + 35), .int (nI (bkS l 0 + ouA (bkT l 0) i))]) (st := []) (hz_dec kX12_judgeParts 123 rfl) co_X12_519 im_X12_isAmount se_X12_isAmount rfl hO h8 (by omega) (c_isAm hB (by omega) (by omega) (by decide) (by omega)) rfl (by decide) ⟨Nat.le_refl _, Nat.le_refl _⟩ (Nat.le_of_ble_eq_true rfl) rfl ?_
    refine hz_eqi (pc := 223) (show _ = hz_b (amB (bn_num (lf (bkT l 0)) (ouA (bkT l 0) i) 8)) by rw [num_of tA (by omega)]) ?_
    refine hz_if_ne (pc := 223) (tgt := 229) (hz_dec kX12_judgeParts 124 rfl) (by decide) (fun h2 => ?_) (fun h2 => ?_)
    · skip
      refine hz_lload (pc := 229) 2 (hz_dec kX12_judgeParts 127 rfl) rfl ?_
      refine hz_aloadn (pc := 231) 4 (hz_dec kX12_judgeParts 128 rfl) rfl ?_
      refine hz_get (pc := 232) (v := .ref (B + 35)) (hz_dec kX12_judgeParts 129 rfl) fo_X12_116 hO h8 (by omega) (hF.2 38 (by decide) (by decide)) ?_
      refine hz_iload (pc := 235) 0 (hz_dec kX12_judgeParts 130 rfl) rfl ?_
      refine hz_xS (pc := 237) (As := [.ref (B + 35), .int (nI (bkS l 0 + ouA (bkT l 0) i))]) (st := [.long s]) (hz_dec kX12_judgeParts 131 rfl) co_X12_330 sc_X12_longAt (c_longAt hB (by omega) (by omega) (by decide) (by omega)) rfl (by decide) ⟨Nat.le_refl _, Nat.le_refl _⟩ (Nat.le_of_ble_eq_true rfl) rfl ?_
      refine hz_eql (pc := 240) (num_of tA (by omega)) ?_
      refine hz_ladd (pc := 240) (hz_dec kX12_judgeParts 132 rfl) ?_
      refine hz_lstore (pc := 241) (i := 7) (lo2 := [(7, .long ((s) + (bn_num (lf (bkT l 0)) (ouA (bkT l 0) i) 8))), (10, .int (nI (bkS l 0 + ouA (bkT l 0) i))), (9, .int (nI i)), (5, .long acc), (0, .ref B), (1, .int (nI v)), (2, .int (nI h_))]) (hz_dec kX12_judgeParts 133 rfl) (by decide) rfl ?_
      refine hz_incN (pc := 243) (i := 9) (lo2 := [(9, .int (nI (i + 1))), (7, .long ((s) + (bn_num (lf (bkT l 0)) (ouA (bkT l 0) i) 8))), (10, .int (nI (bkS l 0 + ouA (bkT l 0) i))), (5, .long acc), (0, .ref B), (1, .int (nI v)), (2, .int (nI h_))]) 2 (hz_dec kX12_judgeParts 134 rfl) rfl (by decide) rfl ?_
      refine hz_goto (pc := 246) (tgt := 178) (hz_dec kX12_judgeParts 135 rfl) (by decide) ?_
      refine hz_pick (pc := 178) [0, 1, 3, 4, 5, 6] rfl ?_
      exact ih (txO (bkT l 0) - (i + 1)) (by omega) (i + 1) _ M rfl (by omega) hfr hE hc h54 (paK_t hpa (hz_b1 h2))
    · skip
      have e9 : jPa l h_ cs0 = 14 := by unfold jPa; rw [hjn2]; simp only [if_true]; rw [if_pos (show paS (bkT l 0) = none ∨ lN (subS h_) + acc < paV (paS (bkT l 0)) from Or.inl (paK_f (k := i) (hz_b0 h2) _ (by omega)))]
      refine hz_bipush (pc := 226) (v := nI 14) (hz_dec kX12_judgeParts 125 rfl) (by decide) ?_
      exact hz_iret (pc := 228) (hz_dec kX12_judgeParts 126 rfl) rfl ⟨by rw [e9], rfl, hfr, hE, h54⟩
set_option maxHeartbeats 4000000 in
set_option maxRecDepth 100000 in
theorem c_jp_l {κ : hz_C} {z : Nat} {M0 : hz_M} {B : Nat} (hk0 : md_k B M0 z) (hE0 : mdE M0 B) {l : by_L} (hA : isA (fA M0 B 35) 0 l) (hl4 : l.length ≤ 4000) (hW : blW l) (h14 : ∀ j, j ≤ bkN l → fA M0 B 14 j = nI (bkS l j)) (h16 : fdB M0 B 16 = some (.int (nI (bkN l)))) {h_ : Nat} (hh : h_ < 100000) {cs0 : List co_C} {v x : Nat} : ∀ k j cs acc M, k = bkN l - j → 1 ≤ j → j ≤ bkN l → mfr B [53, 54, 55, 59] [3, 4, 5, 6, 8, 9, 43, 44, 45, 46, 47, 48, 49, 50, 52] M0 M → mdE M B → mcR M B cs → ccX M B v x cs0 → coHt cs → cs.length ≤ 500 + 4 * j → jTs l h_ (bkN l - 1) 1 cs0 0 = jTs l h_ (bkN l - j) j cs acc → hz_W κ xX12_judgeParts 8 0 0 (fun r z2 M2 => some (.int (nI (jPa l h_ cs0))) = r ∧ z = z2 ∧ mfr B [53, 54, 55, 59] [3, 4, 5, 6, 8, 9, 43, 44, 45, 46, 47, 48, 49, 50, 52] M0 M2 ∧ mdE M2 B ∧ ccX M2 B v x cs0) 0 0 43 [(7, .int (nI j)), (5, .long acc), (3, .long (idS (bkT l 0))), (0, .ref B), (1, .int (nI v)), (2, .int (nI h_))] [] z M := by
  intro k
  induction k using Nat.strongRecOn with
  | ind k ih =>
  intro j cs acc M hk_ hj1 hj hfr hE hc h54 hht hlen hjn
  obtain ⟨hbf1, hbf2, hbf3, hbf4, hbf5, hbf6, hbf7⟩ := hW.f
  have hln9 := hW.len
  have hk : md_k B M z := hk0.mf hfr rfl rfl
  obtain ⟨⟨fs, hO, hF⟩, -, -, h8, hz⟩ := id hk
  have hB : M (B + 35) = .inl (1, 4000, .inl (fA M0 B 35)) := (hfr.at 35 (by decide) rfl).trans hE0.a35
  have hP : M (B + 14) = .inl (0, 9, .inl (fA M0 B 14)) := (hfr.at 14 (by decide) rfl).trans hE0.a14
  have g16 : fs[16]? = some (.int (nI (bkN l))) := (fdB_of hO 16).symm.trans ((hfr.2.2 16 rfl).trans h16)
  refine hz_iload (pc := 43) 0 (hz_dec kX12_judgeParts 27 rfl) rfl ?_
  refine hz_aloadn (pc := 45) 3 (hz_dec kX12_judgeParts 28 rfl) rfl ?_
  refine hz_get (pc := 46) (v := .int (nI (bkN l))) (hz_dec kX12_judgeParts 29 rfl) fo_X12_409 hO h8 (by omega) g16 ?_
  refine hz_n_ge (pc := 49) (tgt := 172) (hz_dec kX12_judgeParts 30 rfl) (by decide) (by omega) (by omega) (fun h1 => ?_) (fun h1 => ?_)
  · skip
    have e : j = bkN l := by omega
    have hjn2 : jTs l h_ (bkN l - 1) 1 cs0 0 = (0, cs, acc) := by rw [hjn, e, Nat.sub_self]; rfl
    refine hz_lconst (pc := 172) (v := 0) (hz_dec kX12_judgeParts 97 rfl) (by decide) ?_
    refine hz_lstore (pc := 173) (i := 7) (lo2 := [(7, .long 0), (5, .long acc), (3, .long (idS (bkT l 0))), (0, .ref B), (1, .int (nI v)), (2, .int (nI h_))]) (hz_dec kX12_judgeParts 98 rfl) (by decide) rfl ?_
    refine hz_iconst (pc := 175) (v := nI 0) (hz_dec kX12_judgeParts 99 rfl) (by decide) ?_
    refine hz_istore (pc := 176) (i := 9) (lo2 := [(9, .int (nI 0)), (7, .long 0), (5, .long acc), (3, .long (idS (bkT l 0))), (0, .ref B), (1, .int (nI v)), (2, .int (nI h_))]) (hz_dec kX12_judgeParts 100 rfl) (by decide) rfl ?_
    refine hz_pick (pc := 178) [0, 1, 2, 4, 5, 6] rfl ?_
    exact c_jp_e hk0 hE0 hA hl4 hW h14 h16 hh hjn2 (txO (bkT l 0)) 0 0 M rfl (by omega) hfr hE hc h54 rfl
  · skip
    have tj := hW.t (j := j) (by omega)
    have tA := hW.A hA (j := j) (by omega)
    rw [Nat.zero_add] at tA
    obtain ⟨w1, w2, w3, w4, w5⟩ := txW_sz tj.2.1
    have tl := txW_len tj.2.1
    refine hz_aloadn (pc := 52) 3 (hz_dec kX12_judgeParts 31 rfl) rfl ?_
    refine hz_get (pc := 53) (v := .ref (B + 14)) (hz_dec kX12_judgeParts 32 rfl) fo_X12_51 hO h8 (by omega) (hF.2 15 (by decide) (by decide)) ?_
    refine hz_iload (pc := 56) 0 (hz_dec kX12_judgeParts 33 rfl) rfl ?_
    refine hz_iconst (pc := 58) (v := nI 1) (hz_dec kX12_judgeParts 34 rfl) (by decide) ?_
    refine hz_addN (pc := 59) (hz_dec kX12_judgeParts 35 rfl) ?_
    refine hz_iald (pc := 60) (j := j + 1) (hz_dec kX12_judgeParts 36 rfl) hP (by omega) (by omega) rfl (by omega) (by decide) ?_
    refine hz_eqi (pc := 61) (h14 (j + 1) (by omega)) ?_
    refine hz_aloadn (pc := 61) 3 (hz_dec kX12_judgeParts 37 rfl) rfl ?_
    refine hz_get (pc := 62) (v := .ref (B + 14)) (hz_dec kX12_judgeParts 38 rfl) fo_X12_51 hO h8 (by omega) (hF.2 15 (by decide) (by decide)) ?_
    refine hz_iload (pc := 65) 0 (hz_dec kX12_judgeParts 39 rfl) rfl ?_
    refine hz_iald (pc := 67) (j := j) (hz_dec kX12_judgeParts 40 rfl) hP (by omega) (by omega) rfl (by omega) (by decide) ?_
    refine hz_eqi (pc := 68) (h14 (j) (by omega)) ?_
    refine hz_subN (pc := 68) (hz_dec kX12_judgeParts 41 rfl) (by omega) ?_
    refine hz_eqi (pc := 69) (show _ = nI (bkT l j).length by congr 1; omega) ?_
    refine hz_istore (pc := 69) (i := 8) (lo2 := [(8, .int (nI ((bkT l j).length))), (7, .int (nI j)), (5, .long acc), (3, .long (idS (bkT l 0))), (0, .ref B), (1, .int (nI v)), (2, .int (nI h_))]) (hz_dec kX12_judgeParts 42 rfl) (by decide) rfl ?_
    refine hz_aloadn (pc := 71) 4 (hz_dec kX12_judgeParts 43 rfl) rfl ?_
    refine hz_aloadn (pc := 72) 4 (hz_dec kX12_judgeParts 44 rfl) rfl ?_
    refine hz_get (pc := 73) (v := .ref (B + 35)) (hz_dec kX12_judgeParts 45 rfl) fo_X12_116 hO h8 (by omega) (hF.2 38 (by decide) (by decide)) ?_
    refine hz_aloadn (pc := 76) 4 (hz_dec kX12_judgeParts 46 rfl) rfl ?_
    refine hz_get (pc := 77) (v := .ref (B + 14)) (hz_dec kX12_judgeParts 47 rfl) fo_X12_51 hO h8 (by omega) (hF.2 15 (by decide) (by decide)) ?_
    refine hz_iload (pc := 80) 1 (hz_dec kX12_judgeParts 48 rfl) rfl ?_
    refine hz_iald (pc := 82) (j := j) (hz_dec kX12_judgeParts 49 rfl) hP (by omega) (by omega) rfl (by omega) (by decide) ?_
    refine hz_eqi (pc := 83) (h14 (j) (by omega)) ?_
    refine hz_iload (pc := 83) 0 (hz_dec kX12_judgeParts 50 rfl) rfl ?_
    refine hz_iloadn (pc := 85) 6 (hz_dec kX12_judgeParts 51 rfl) rfl ?_
    refine hz_callV (pc := 86) (a := B) (As := [.ref (B + 35), .int (nI (bkS l (j))), .int (nI ((bkT l j).length)), .int (nI h_)]) (st := []) (hz_dec kX12_judgeParts 52 rfl) co_X12_556 im_X12_judgeSpending se_X12_judgeSpending rfl hO h8 (by omega) (c_jSpend hk hc hB (by omega) (by omega) (ne_off (by decide)) (by decide) tA (by omega) tj.2.1 hh hht.l hE.s ⟨_, hE.a52⟩) rfl (by decide) ⟨Nat.le_refl _, Nat.le_refl _⟩ (Nat.le_of_ble_eq_true rfl) rfl (fun r9 z9 M2 hp9 => ?_)
    obtain ⟨rfl, rfl, hf2, hs2, h522, hfee⟩ := hp9
    obtain ⟨g52, hg52⟩ := h522
    have hfr2 : mfr B [53, 54, 55, 59] [3, 4, 5, 6, 8, 9, 43, 44, 45, 46, 47, 48, 49, 50, 52] M0 M2 := hfr.tr (hf2.mono rfl rfl)
    have hE2 : mdE M2 B := hE.gen hf2 (A := [3, 4, 5, 6, 7, 8, 9]) (E := [52]) rfl hs2.sho (sho_c (shoA (by decide) hg52) sho_n)
    have hc2 : mcR M2 B cs := hc.fr hf2 rfl rfl
    have h542 : ccX M2 B v x cs0 := h54.fr hf2 rfl rfl rfl rfl
    have hv9 : (jSp cs (bkT l j) h_).1 < 100 := jSp_lt _ _ _
    have hk2 : md_k B M2 z := hk0.mf hfr2 rfl rfl
    obtain ⟨fs2, hO2, hF2⟩ := id hfr2.2.1
    have hB2 : M2 (B + 35) = .inl (1, 4000, .inl (fA M0 B 35)) := (hfr2.at 35 (by decide) rfl).trans hE0.a35
    have hP2 : M2 (B + 14) = .inl (0, 9, .inl (fA M0 B 14)) := (hfr2.at 14 (by decide) rfl).trans hE0.a14
    refine hz_istore (pc := 89) (i := 9) (lo2 := [(9, .int (nI ((jSp cs (bkT l j) h_).1))), (8, .int (nI ((bkT l j).length))), (7, .int (nI j)), (5, .long acc), (3, .long (idS (bkT l 0))), (0, .ref B), (1, .int (nI v)), (2, .int (nI h_))]) (hz_dec kX12_judgeParts 53 rfl) (by decide) rfl ?_
    refine hz_iload (pc := 91) 0 (hz_dec kX12_judgeParts 54 rfl) rfl ?_
    refine hz_z_eq (pc := 93) (tgt := 99) (hz_dec kX12_judgeParts 55 rfl) (by decide) (by omega) (fun h2 => ?_) (fun h2 => ?_)
    · skip
      have hfee2 := hfee h2
      have g59 : fs2[59]? = some (.long (jSp cs (bkT l j) h_).2) := (fdB_of hO2 59).symm.trans hfee2
      refine hz_aloadn (pc := 99) 5 (hz_dec kX12_judgeParts 58 rfl) rfl ?_
      refine hz_aloadn (pc := 100) 5 (hz_dec kX12_judgeParts 59 rfl) rfl ?_
      refine hz_get (pc := 101) (v := .ref (B + 35)) (hz_dec kX12_judgeParts 60 rfl) fo_X12_116 hO2 h8 (by omega) (hF2.2 38 (by decide) (by decide)) ?_
      refine hz_aloadn (pc := 104) 5 (hz_dec kX12_judgeParts 61 rfl) rfl ?_
      refine hz_get (pc := 105) (v := .ref (B + 14)) (hz_dec kX12_judgeParts 62 rfl) fo_X12_51 hO2 h8 (by omega) (hF2.2 15 (by decide) (by decide)) ?_
      refine hz_iload (pc := 108) 2 (hz_dec kX12_judgeParts 63 rfl) rfl ?_
      refine hz_iald (pc := 110) (j := j) (hz_dec kX12_judgeParts 64 rfl) hP2 (by omega) (by omega) rfl (by omega) (by decide) ?_
      refine hz_eqi (pc := 111) (h14 (j) (by omega)) ?_
      refine hz_iload (pc := 111) 1 (hz_dec kX12_judgeParts 65 rfl) rfl ?_
      refine hz_callV (pc := 113) (a := B) (As := [.ref (B + 35), .int (nI (bkS l (j))), .int (nI ((bkT l j).length))]) (st := []) (hz_dec kX12_judgeParts 66 rfl) co_X12_338 im_X12_shortOf se_X12_shortOf rfl hO2 h8 (by omega) (c_shortOf (n := (bkT l j).length) hk2 hE2.s hB2 (by omega) (by omega) (by decide) (by omega)) rfl (by decide) ⟨Nat.le_refl _, Nat.le_refl _⟩ (Nat.le_of_ble_eq_true rfl) rfl (fun r9 z9 M3 hp9 => ?_)
      obtain ⟨rfl, rfl, hf3, hs3, -⟩ := hp9
      refine hz_eql (pc := 116) (show _ = idS (bkT l j) by rw [shS_of tA rfl]; rfl) ?_
      have hf3m : mfr B [] [3, 4, 5] M2 M3 := mfr.ofl ⟨fs2, hO2, hF2⟩ hf3 rfl
      have hfr3 : mfr B [53, 54, 55, 59] [3, 4, 5, 6, 8, 9, 43, 44, 45, 46, 47, 48, 49, 50, 52] M0 M3 := hfr2.tr (hf3m.mono rfl rfl)
      have hE3 : mdE M3 B := hE2.hs hf3m hs3 rfl
      have hc3 : mcR M3 B cs := hc2.fr hf3m rfl rfl
      have h543 : ccX M3 B v x cs0 := h542.fr hf3m rfl rfl rfl rfl
      have hk3 : md_k B M3 z := hk0.mf hfr3 rfl rfl
      obtain ⟨fs3, hO3, hF3⟩ := id hfr3.2.1
      have hB3 : M3 (B + 35) = .inl (1, 4000, .inl (fA M0 B 35)) := (hfr3.at 35 (by decide) rfl).trans hE0.a35
      have hP3 : M3 (B + 14) = .inl (0, 9, .inl (fA M0 B 14)) := (hfr3.at 14 (by decide) rfl).trans hE0.a14
      have g593 : fs3[59]? = some (.long (jSp cs (bkT l j) h_).2) := (fdB_of hO3 59).symm.trans ((hf3m.2.2 59 rfl).trans hfee2)
      refine hz_lloadn (pc := 116) 4 (hz_dec kX12_judgeParts 67 rfl) rfl ?_
      refine hz_lcmp (pc := 117) (hz_dec kX12_judgeParts 68 rfl) ?_
      refine hz_if_ne (pc := 118) (tgt := 124) (hz_dec kX12_judgeParts 69 rfl) (by decide) (fun h3 => ?_) (fun h3 => ?_)
      · skip
        refine hz_lload (pc := 124) 3 (hz_dec kX12_judgeParts 72 rfl) rfl ?_
        refine hz_aloadn (pc := 126) 5 (hz_dec kX12_judgeParts 73 rfl) rfl ?_
        refine hz_get (pc := 127) (v := .long ((jSp cs (bkT l j) h_).2)) (hz_dec kX12_judgeParts 74 rfl) fo_X12_523 hO3 h8 (by omega) g593 ?_
        refine hz_ladd (pc := 130) (hz_dec kX12_judgeParts 75 rfl) ?_
        refine hz_lstore (pc := 131) (i := 5) (lo2 := [(5, .long ((acc) + ((jSp cs (bkT l j) h_).2))), (9, .int (nI ((jSp cs (bkT l j) h_).1))), (8, .int (nI ((bkT l j).length))), (7, .int (nI j)), (3, .long (idS (bkT l 0))), (0, .ref B), (1, .int (nI v)), (2, .int (nI h_))]) (hz_dec kX12_judgeParts 76 rfl) (by decide) rfl ?_
        refine hz_aloadn (pc := 133) 5 (hz_dec kX12_judgeParts 77 rfl) rfl ?_
        refine hz_aloadn (pc := 134) 5 (hz_dec kX12_judgeParts 78 rfl) rfl ?_
        refine hz_get (pc := 135) (v := .ref (B + 35)) (hz_dec kX12_judgeParts 79 rfl) fo_X12_116 hO3 h8 (by omega) (hF3.2 38 (by decide) (by decide)) ?_
        refine hz_aloadn (pc := 138) 5 (hz_dec kX12_judgeParts 80 rfl) rfl ?_
        refine hz_get (pc := 139) (v := .ref (B + 14)) (hz_dec kX12_judgeParts 81 rfl) fo_X12_51 hO3 h8 (by omega) (hF3.2 15 (by decide) (by decide)) ?_
        refine hz_iload (pc := 142) 3 (hz_dec kX12_judgeParts 82 rfl) rfl ?_
        refine hz_iald (pc := 144) (j := j) (hz_dec kX12_judgeParts 83 rfl) hP3 (by omega) (by omega) rfl (by omega) (by decide) ?_
        refine hz_eqi (pc := 145) (h14 (j) (by omega)) ?_
        refine hz_aloadn (pc := 145) 5 (hz_dec kX12_judgeParts 84 rfl) rfl ?_
        refine hz_aloadn (pc := 146) 5 (hz_dec kX12_judgeParts 85 rfl) rfl ?_
        refine hz_get (pc := 147) (v := .ref (B + 35)) (hz_dec kX12_judgeParts 86 rfl) fo_X12_116 hO3 h8 (by omega) (hF3.2 38 (by decide) (by decide)) ?_
        refine hz_aloadn (pc := 150) 5 (hz_dec kX12_judgeParts 87 rfl) rfl ?_
        refine hz_get (pc := 151) (v := .ref (B + 14)) (hz_dec kX12_judgeParts 88 rfl) fo_X12_51 hO3 h8 (by omega) (hF3.2 15 (by decide) (by decide)) ?_
        refine hz_iload (pc := 154) 3 (hz_dec kX12_judgeParts 89 rfl) rfl ?_
        refine hz_iald (pc := 156) (j := j) (hz_dec kX12_judgeParts 90 rfl) hP3 (by omega) (by omega) rfl (by omega) (by decide) ?_
        refine hz_eqi (pc := 157) (h14 (j) (by omega)) ?_
        refine hz_iload (pc := 157) 2 (hz_dec kX12_judgeParts 91 rfl) rfl ?_
        refine hz_callV (pc := 159) (a := B) (As := [.ref (B + 35), .int (nI (bkS l (j))), .int (nI ((bkT l j).length))]) (st := [.int (nI (bkS l (j))), .ref (B + 35), .ref B]) (hz_dec kX12_judgeParts 92 rfl) co_X12_338 im_X12_shortOf se_X12_shortOf rfl hO3 h8 (by omega) (c_shortOf (n := (bkT l j).length) hk3 hE3.s hB3 (by omega) (by omega) (by decide) (by omega)) rfl (by decide) ⟨Nat.le_refl _, Nat.le_refl _⟩ (Nat.le_of_ble_eq_true rfl) rfl (fun r9 z9 M4 hp9 => ?_)
        obtain ⟨rfl, rfl, hf4, hs4, -⟩ := hp9
        refine hz_eql (pc := 162) (show _ = idS (bkT l j) by rw [shS_of tA rfl]; rfl) ?_
        have hf4m : mfr B [] [3, 4, 5] M3 M4 := mfr.ofl ⟨fs3, hO3, hF3⟩ hf4 rfl
        have hfr4 : mfr B [53, 54, 55, 59] [3, 4, 5, 6, 8, 9, 43, 44, 45, 46, 47, 48, 49, 50, 52] M0 M4 := hfr3.tr (hf4m.mono rfl rfl)
        have hE4 : mdE M4 B := hE3.hs hf4m hs4 rfl
        have hc4 : mcR M4 B cs := hc3.fr hf4m rfl rfl
        have h544 : ccX M4 B v x cs0 := h543.fr hf4m rfl rfl rfl rfl
        obtain ⟨fs4, hO4, hF4⟩ := id hfr4.2.1
        have hB4 : M4 (B + 35) = .inl (1, 4000, .inl (fA M0 B 35)) := (hfr4.at 35 (by decide) rfl).trans hE0.a35
        have hP4 : M4 (B + 14) = .inl (0, 9, .inl (fA M0 B 14)) := (hfr4.at 14 (by decide) rfl).trans hE0.a14
        refine hz_iloadn (pc := 162) 7 (hz_dec kX12_judgeParts 93 rfl) rfl ?_
        refine hz_callV (pc := 163) (a := B) (As := [.ref (B + 35), .int (nI (bkS l (j))), .long (idS (bkT l j)), .int (nI h_)]) (st := []) (hz_dec kX12_judgeParts 94 rfl) co_X12_505 im_X12_spendOf se_X12_spendOf rfl hO4 h8 (by omega) (c_mcSp hc4 h8 hz hB4 (by omega) (by omega) (by decide) tA (by omega) tj.2.1 (ne_off (by decide)) (by omega)) rfl (by decide) ⟨Nat.le_refl _, Nat.le_refl _⟩ (Nat.le_of_ble_eq_true rfl) rfl (fun r9 z9 M5 hp9 => ?_)
        obtain ⟨rfl, rfl, hf5, hc5, h545⟩ := hp9
        have hfr5 : mfr B [53, 54, 55, 59] [3, 4, 5, 6, 8, 9, 43, 44, 45, 46, 47, 48, 49, 50, 52] M0 M5 := hfr4.tr (hf5.mono rfl rfl)
        have hE5 : mdE M5 B := hE4.hc hf5 hc5 rfl
        have h546 : ccX M5 B v x cs0 := by obtain ⟨cb, q1, -⟩ := h544; exact ⟨cb, (hf5.2.2 55 rfl).trans q1, Or.inl h545⟩
        refine hz_incN (pc := 166) (i := 7) (lo2 := [(7, .int (nI (j + 1))), (5, .long ((acc) + ((jSp cs (bkT l j) h_).2))), (9, .int (nI ((jSp cs (bkT l j) h_).1))), (8, .int (nI ((bkT l j).length))), (3, .long (idS (bkT l 0))), (0, .ref B), (1, .int (nI v)), (2, .int (nI h_))]) 3 (hz_dec kX12_judgeParts 95 rfl) rfl (by decide) rfl ?_
        refine hz_goto (pc := 169) (tgt := 43) (hz_dec kX12_judgeParts 96 rfl) (by decide) ?_
        refine hz_pick (pc := 43) [0, 1, 4, 5, 6, 7] rfl ?_
        have hl9 := coAp_len (cs := cs) (t := bkT l j) (iD := idS (bkT l j)) (h := h_) w3
        refine ih (bkN l - (j + 1)) (by omega) (j + 1) _ _ M5 rfl (by omega) (by omega) hfr5 hE5 hc5 h546 (hht.ap hh) (by omega) (hjn.trans ?_)
        rw [show bkN l - j = (bkN l - (j + 1)) + 1 by omega]
        exact jTs_st h2 (fun q => h3 ((lg_cmp_eq _ _).mpr q))
      · skip
        have e9 : jPa l h_ cs0 = 13 := jPa_v (hjn.trans (by rw [show bkN l - j = (bkN l - (j + 1)) + 1 by omega]; exact jTs_13 h2 ((lg_cmp_eq _ _).mp h3))) (by decide)
        refine hz_bipush (pc := 121) (v := nI 13) (hz_dec kX12_judgeParts 70 rfl) (by decide) ?_
        exact hz_iret (pc := 123) (hz_dec kX12_judgeParts 71 rfl) rfl ⟨by rw [e9], rfl, hfr3, hE3, h543⟩
    · skip
      have e9 : jPa l h_ cs0 = (jSp cs (bkT l j) h_).1 := jPa_v (hjn.trans (by rw [show bkN l - j = (bkN l - (j + 1)) + 1 by omega]; exact jTs_v (by omega))) (by omega)
      refine hz_iload (pc := 96) 0 (hz_dec kX12_judgeParts 56 rfl) rfl ?_
      exact hz_iret (pc := 98) (hz_dec kX12_judgeParts 57 rfl) rfl ⟨by rw [e9], rfl, hfr2, hE2, h542⟩
set_option maxHeartbeats 4000000 in
set_option maxRecDepth 100000 in
theorem c_jParts {κ : hz_C} {z : Nat} {M : hz_M} {B : Nat} (hk0 : md_k B M z) (hE0 : mdE M B) {l : by_L} (hA : isA (fA M B 35) 0 l) (hl4 : l.length ≤ 4000) (hW : blW l) (h14 : ∀ j, j ≤ bkN l → fA M B 14 j = nI (bkS l j)) (h16 : fdB M B 16 = some (.int (nI (bkN l)))) {h_ : Nat} (hh : h_ < 100000) {v tip : Nat} {bl : List bk_B} {en : List en_E} (hv : v < 6) (hnb : bl.length ≤ 128) (hlen : bl.length ≤ en.length) (hR : rvX (fA M B) v bl.length en) (hN : nbX (fA M B) (fL M B) v bl tip) (hwf : wfE en) (hbx : blX bl) (h24 : ∀ k, k < bl.length → (bBy bl k).length ≤ 200 ∨ fA M B 24 (128 * v + k) ≠ -1) {x : Nat} (hx : x < bl.length) (hcb : cbX bl en x) {cn cb : Int32} (h54 : fdB M B 54 = some (.int cn)) (h55 : fdB M B 55 = some (.int cb)) (hcc : cn = nI v → cb = nI x → mcR M B (coAt bl en x)) (h61 : fdB M B 61 = some (.int (nI x))) (hht : coHt (coAt bl en x)) (hlc : (coAt bl en x).length ≤ 500) : hz_Mt κ xX12_judgeParts 8 0 0 [.ref B, .int (nI v), .int (nI h_)] z M (fun r z2 M2 => some (.int (nI (jPa l h_ (coAt bl en x)))) = r ∧ z = z2 ∧ mfr B [53, 54, 55, 59] [3, 4, 5, 6, 8, 9, 43, 44, 45, 46, 47, 48, 49, 50, 52] M M2 ∧ mdE M2 B ∧ ccX M2 B v x (coAt bl en x)) := by
  refine hz_ent (lo := [(0, .ref B), (1, .int (nI v)), (2, .int (nI h_))]) (by decide) (Nat.le_of_ble_eq_true rfl) rfl ?_
  obtain ⟨hbf1, hbf2, hbf3, hbf4, hbf5, hbf6, hbf7⟩ := hW.f
  have hln9 := hW.len
  obtain ⟨⟨fs, hO, hF⟩, -, -, h8, hz⟩ := id hk0
  have g61 : fs[61]? = some (.int (nI x)) := (fdB_of hO 61).symm.trans h61
  have t0 := hW.t (j := 0) (by omega)
  have t01 : bkS l 1 = bkS l 0 + (bkT l 0).length := t0.1
  have tA := hW.A hA (j := 0) (by omega)
  rw [Nat.zero_add] at tA
  have tl := txW_len t0.2.1
  refine hz_aloadn (pc := 0) 0 (hz_dec kX12_judgeParts 0 rfl) rfl ?_
  refine hz_iloadn (pc := 1) 1 (hz_dec kX12_judgeParts 1 rfl) rfl ?_
  refine hz_aloadn (pc := 2) 0 (hz_dec kX12_judgeParts 2 rfl) rfl ?_
  refine hz_get (pc := 3) (v := .int (nI x)) (hz_dec kX12_judgeParts 3 rfl) fo_X12_541 hO h8 (by omega) g61 ?_
  refine hz_callV (pc := 6) (a := B) (As := [.int (nI v), .int (nI x)]) (st := []) (hz_dec kX12_judgeParts 4 rfl) co_X12_553 im_X12_unspentBehind se_X12_unspentBehind rfl hO h8 (by omega) (c_unsp ⟨fs, hO, hF⟩ hE0 h8 hz hv hnb hlen hR hN hwf hbx h24 hx hcb h54 h55 hcc) rfl (by decide) ⟨Nat.le_refl _, Nat.le_refl _⟩ (Nat.le_of_ble_eq_true rfl) rfl (fun r9 z9 M1 hp9 => ?_)
  obtain ⟨rfl, rfl, hf1, ⟨g50, hg50⟩, ⟨g49, hg49⟩, hc1, h541, h551⟩ := hp9
  have hfr : mfr B [53, 54, 55, 59] [3, 4, 5, 6, 8, 9, 43, 44, 45, 46, 47, 48, 49, 50, 52] M M1 := hf1.mono rfl rfl
  have hE1 : mdE M1 B := hE0.gen hf1 (A := [43, 44, 45, 46, 47, 48]) (E := [49, 50]) rfl hc1.sho (sho_c (shoA (by decide) hg49) (sho_c (shoA (by decide) hg50) sho_n))
  have hcc1 : ccX M1 B v x (coAt bl en x) := ⟨nI x, h551, Or.inr ⟨h541, rfl, hc1⟩⟩
  have hk1 : md_k B M1 z := hk0.mf hfr rfl rfl
  obtain ⟨fs1, hO1, hF1⟩ := id hfr.2.1
  have hB1 : M1 (B + 35) = .inl (1, 4000, .inl (fA M B 35)) := (hfr.at 35 (by decide) rfl).trans hE0.a35
  have hP1 : M1 (B + 14) = .inl (0, 9, .inl (fA M B 14)) := (hfr.at 14 (by decide) rfl).trans hE0.a14
  refine hz_aloadn (pc := 9) 0 (hz_dec kX12_judgeParts 5 rfl) rfl ?_
  refine hz_aloadn (pc := 10) 0 (hz_dec kX12_judgeParts 6 rfl) rfl ?_
  refine hz_get (pc := 11) (v := .ref (B + 35)) (hz_dec kX12_judgeParts 7 rfl) fo_X12_116 hO1 h8 (by omega) (hF1.2 38 (by decide) (by decide)) ?_
  refine hz_aloadn (pc := 14) 0 (hz_dec kX12_judgeParts 8 rfl) rfl ?_
  refine hz_get (pc := 15) (v := .ref (B + 14)) (hz_dec kX12_judgeParts 9 rfl) fo_X12_51 hO1 h8 (by omega) (hF1.2 15 (by decide) (by decide)) ?_
  refine hz_iconst (pc := 18) (v := nI 0) (hz_dec kX12_judgeParts 10 rfl) (by decide) ?_
  refine hz_iald (pc := 19) (j := 0) (hz_dec kX12_judgeParts 11 rfl) hP1 (by omega) (by omega) rfl (by omega) (by decide) ?_
  refine hz_eqi (pc := 20) (h14 (0) (by omega)) ?_
  refine hz_aloadn (pc := 20) 0 (hz_dec kX12_judgeParts 12 rfl) rfl ?_
  refine hz_get (pc := 21) (v := .ref (B + 14)) (hz_dec kX12_judgeParts 13 rfl) fo_X12_51 hO1 h8 (by omega) (hF1.2 15 (by decide) (by decide)) ?_
  refine hz_iconst (pc := 24) (v := nI 1) (hz_dec kX12_judgeParts 14 rfl) (by decide) ?_
  refine hz_iald (pc := 25) (j := 1) (hz_dec kX12_judgeParts 15 rfl) hP1 (by omega) (by omega) rfl (by omega) (by decide) ?_
  refine hz_eqi (pc := 26) (h14 (1) (by omega)) ?_
  refine hz_aloadn (pc := 26) 0 (hz_dec kX12_judgeParts 16 rfl) rfl ?_
  refine hz_get (pc := 27) (v := .ref (B + 14)) (hz_dec kX12_judgeParts 17 rfl) fo_X12_51 hO1 h8 (by omega) (hF1.2 15 (by decide) (by decide)) ?_
  refine hz_iconst (pc := 30) (v := nI 0) (hz_dec kX12_judgeParts 18 rfl) (by decide) ?_
  refine hz_iald (pc := 31) (j := 0) (hz_dec kX12_judgeParts 19 rfl) hP1 (by omega) (by omega) rfl (by omega) (by decide) ?_
  refine hz_eqi (pc := 32) (h14 (0) (by omega)) ?_
  refine hz_subN (pc := 32) (hz_dec kX12_judgeParts 20 rfl) (by omega) ?_
  rw [show (bkS l (1)) - (bkS l (0)) = (bkT l 0).length by omega]
  refine hz_callV (pc := 33) (a := B) (As := [.ref (B + 35), .int (nI (bkS l (0))), .int (nI ((bkT l 0).length))]) (st := []) (hz_dec kX12_judgeParts 21 rfl) co_X12_338 im_X12_shortOf se_X12_shortOf rfl hO1 h8 (by omega) (c_shortOf (n := (bkT l 0).length) hk1 hE1.s hB1 (by omega) (by omega) (by decide) (by omega)) rfl (by decide) ⟨Nat.le_refl _, Nat.le_refl _⟩ (Nat.le_of_ble_eq_true rfl) rfl (fun r9 z9 M2 hp9 => ?_)
  obtain ⟨rfl, rfl, hf2, hs2, -⟩ := hp9
  refine hz_eql (pc := 36) (show _ = idS (bkT l 0) by rw [shS_of tA rfl]; rfl) ?_
  have hf2m : mfr B [] [3, 4, 5] M1 M2 := mfr.ofl ⟨fs1, hO1, hF1⟩ hf2 rfl
  refine hz_lstoren (pc := 36) (i := 3) (lo2 := [(3, .long (idS (bkT l 0))), (0, .ref B), (1, .int (nI v)), (2, .int (nI h_))]) (hz_dec kX12_judgeParts 22 rfl) rfl (by decide) rfl ?_
  refine hz_lconst (pc := 37) (v := 0) (hz_dec kX12_judgeParts 23 rfl) (by decide) ?_
  refine hz_lstore (pc := 38) (i := 5) (lo2 := [(5, .long 0), (3, .long (idS (bkT l 0))), (0, .ref B), (1, .int (nI v)), (2, .int (nI h_))]) (hz_dec kX12_judgeParts 24 rfl) (by decide) rfl ?_
  refine hz_iconst (pc := 40) (v := nI 1) (hz_dec kX12_judgeParts 25 rfl) (by decide) ?_
  refine hz_istore (pc := 41) (i := 7) (lo2 := [(7, .int (nI 1)), (5, .long 0), (3, .long (idS (bkT l 0))), (0, .ref B), (1, .int (nI v)), (2, .int (nI h_))]) (hz_dec kX12_judgeParts 26 rfl) (by decide) rfl ?_
  refine hz_pick (pc := 43) [0, 1, 2, 3, 4, 5] rfl ?_
  exact c_jp_l hk0 hE0 hA hl4 hW h14 h16 hh (bkN l - 1) 1 (coAt bl en x) 0 M2 rfl (by omega) (by omega) (hfr.tr (hf2m.mono rfl rfl)) (hE1.hs hf2m hs2 rfl) (hc1.fr hf2m rfl rfl) (hcc1.fr hf2m rfl rfl rfl rfl) hht (by omega) rfl
