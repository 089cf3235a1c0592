/-! copies of longs; frames by intervals -/
section HZY2
variable {κ : hz_C} {x : hz_X} {d mc ms : Nat} {P : hz_P} {cn sn pc : Nat} {lo : List (Nat × Value)} {st : List Value} {z : Nat} {M : hz_M}
theorem hz_copyL0 {a0 a t n0 n1 i0 i1 k idx : Nat} {f g : Nat → Int64} {ty : FieldType} (hd : decode x.2.1 pc = .ok (.invokestatic idx, 3)) (hlink : Cond.methodLink x.1.cls idx arraycopyName ∈ lw_tbl)
    (hty : (hz_tys κ)[t]? = some (κ.2.2.1 t, ty)) (hprim : refKind ty = false) (hfit : (∀ j, j < n0 → fits ty (.long (f j)) = true)) (hM0 : M a0 = .inl (t, n0, .inr (.inl f))) (ha0 : 8 ≤ a0) (hz0 : a0 < z) (hM : M a = .inl (t, n1, .inr (.inl g))) (ha : 8 ≤ a) (hz : a < z)
    (h4 : i0 + k ≤ n0) (h5 : i1 + k ≤ n1) (hb0 : n0 < 2 ^ 31) (hb1 : n1 < 2 ^ 31) (hdd : 1 ≤ d) (hsum : (st.map fun v => v.category).sum ≤ 8) (hbf : hz_bf (.inl (t, n1, .inr (.inl (va_cpy f g i0 i1 k)))))
    (kk : hz_W κ x d mc ms P cn sn (pc + 3) lo st z (va_up M a (.inl (t, n1, .inr (.inl (va_cpy f g i0 i1 k)))))) : hz_W κ x d mc ms P cn sn pc lo (.int (nI k) :: .int (nI i1) :: .ref a :: .int (nI i0) :: .ref a0 :: st) z M := by
  intro p e s m args below meth c H locs ls F hwd hS hl
  have hw := F.2.2.2.2.2.2.2.2.1
  have hK := F.2.2.2.2.2.2.2.2.2.1
  have hc0 : H[κ.2.2.2.1 a0]? = some (vp_cell (κ.2.2.1 t) (n0, .inr (.inl f))) := by have q := (hwd.2.2.2 a0 ha0 hz0).1; rw [hM0] at q; exact q
  have hc1 : H[κ.2.2.2.1 a]? = some (vp_cell (κ.2.2.1 t) (n1, .inr (.inl g))) := by have q := (hwd.2.2.2 a ha hz).1; rw [hM] at q; exact q
  obtain ⟨p1, p2, p3⟩ := hz_nn (k := i0) (by omega)
  obtain ⟨r1, r2, r3⟩ := hz_nn (k := i1) (by omega)
  obtain ⟨s1, s2, s3⟩ := hz_nn (k := k) (by omega)
  have hts := F.2.2.2.2.1
  intro T hT X
  obtain ⟨-, k0, hk0, cm0, hkk0⟩ := (hK.2 t _ hty).1 n0 (fun j => .long (f j))
  obtain ⟨-, k1, hk1, cm1, hkk1⟩ := (hK.2 t _ hty).1 n1 (fun j => .long (g j))
  obtain ⟨vm', X', step⟩ := X.arraycopy F.1 F.2.2.2.1 (hts _ (List.mem_cons_of_mem _ (hz_inT hlink rfl))) (hts (.native arraycopyName) (List.mem_cons_of_mem _ (hz_inT hz_acn rfl))) (hts (.static arraycopyName) (List.mem_cons_of_mem _ (hz_inT hz_acs rfl))) (hts (.initialized "java/lang/System") (List.mem_cons_of_mem _ (hz_inT hz_aci rfl))) (src := κ.2.2.2.1 a0) (dst := κ.2.2.2.1 a) (cs := vp_cell (κ.2.2.1 t) (n0, .inr (.inl f))) (cd := vp_cell (κ.2.2.1 t) (n1, .inr (.inl g))) (srcPos := nI i0) (destPos := nI i1) (n := nI k) (by rw [hT]; exact hc0) (by rw [hT]; exact hc1)
    (fun _ h => by cases h) (fun _ h => by cases h) (fun h => by cases h) (fun h => by cases h) hk0 hk1 hkk0 hkk1 (by simp [hprim]) p1 r1 s1
    (by rw [p3, s3]; show ¬ _ > ((arrV _ n0 (fun j => .long (f j))).slots.size : Int); rw [arrV_size]; omega)
    (by rw [r3, s3]; show ¬ _ > ((arrV _ n1 (fun j => .long (g j))).slots.size : Int); rw [arrV_size]; omega)
    (fun vm₁ _ i hi => by
      rw [p2]
      rw [s2] at hi
      have e : (vp_cell (κ.2.2.1 t) (n0, .inr (.inl f))).slots.getD (i0 + i) .null = .long (f (i0 + i)) := by
        show (arrV _ n0 (fun j => .long (f j))).slots.getD _ _ = _
        rw [Array.getD_eq_getD_getElem?, arrV_read _ _ (by omega)]
        rfl
      refine ⟨?_, ?_⟩
      · rw [e]
        exact hfit (i0 + i) (by omega)
      · rw [e]
        exact trivial)
    (g := F0 m pc ls (.int (nI k) :: .int (nI i1) :: .ref (κ.2.2.2.1 a) :: .int (nI i0) :: .ref (κ.2.2.2.1 a0) :: st.map (hz_rv κ))) rfl (by show ls.size = c.maxLocals; rw [hl.1, F.2.2.1]) (rest := st.map (hz_rv κ)) rfl (by rw [F.2.1]; exact hd) hdd (by
      have q := hz_stm (κ := κ) hsum
      have w : nativeFrameWords "java/lang/System" "arraycopy" 5 ≤ 25 := by decide +kernel
      show 2 * 0 + _ + _ ≤ 48 * d
      omega)
  have e1 : copied (vp_cell (κ.2.2.1 t) (n0, .inr (.inl f))) (vp_cell (κ.2.2.1 t) (n1, .inr (.inl g))) (nI i0) (nI i1) (nI k) = vp_cell (κ.2.2.1 t) (n1, .inr (.inl (va_cpy f g i0 i1 k))) := by
    have q := va_copied (fun z => Value.long z) (κ.2.2.1 t) (κ.2.2.1 t) (n1 := n1) (dp := i1) f g h4
    show (vp_cell (κ.2.2.1 t) (n1, .inr (.inl g))).storeRun (nI i1).toNatClampNeg ((vp_cell (κ.2.2.1 t) (n0, .inr (.inl f))).stretch (nI i0).toNatClampNeg (nI k).toNatClampNeg) = _
    rw [p2, r2, s2]
    exact q
  rw [e1] at X' step
  have hlt : κ.2.2.2.1 a < H.size := (Array.getElem?_eq_some_iff.mp hc1).1
  have hheap : ((T.setVm vm').setCell (κ.2.2.2.1 a) (vp_cell (κ.2.2.1 t) (n1, .inr (.inl (va_cpy f g i0 i1 k))))).heap = H.setIfInBounds (κ.2.2.2.1 a) (vp_cell (κ.2.2.1 t) (n1, .inr (.inl (va_cpy f g i0 i1 k)))) := by rw [← hT]; rfl
  have oq : ∀ q : Nat, q ≠ κ.2.2.2.1 a → (H.setIfInBounds (κ.2.2.2.1 a) (vp_cell (κ.2.2.1 t) (n1, .inr (.inl (va_cpy f g i0 i1 k)))))[q]? = H[q]? := fun q hq => by simp [Array.getElem?_setIfInBounds, Ne.symm hq]
  have sz : (H.setIfInBounds (κ.2.2.2.1 a) (vp_cell (κ.2.2.1 t) (n1, .inr (.inl (va_cpy f g i0 i1 k))))).size = H.size := by simp
  obtain ⟨t2, a1, b1⟩ := kk p e s m args below meth c _ _ ls F (hwd.put hw ha hz (show (H.setIfInBounds (κ.2.2.2.1 a) _)[κ.2.2.2.1 a]? = some _ by simp [Array.getElem?_setIfInBounds, hlt]) hbf sz oq) ⟨by rw [sz]; exact hS.1, fun q g1 g2 => by
      rw [oq q (fun e => g2 (by rw [e]; exact hz_adA hw ha))]
      exact hS.2.1 q g1 g2, fun q hq => by
      rcases List.mem_append.mp hq with h | h
      · exact hS.2.2 q h
      · obtain ⟨w, -, hw2⟩ := List.mem_map.mp h
        rw [← hw2]
        exact hz_adA hw ha⟩ hl _ hheap X'
  exact ⟨t2, step t2 a1, b1⟩

theorem hz_copyL {a0 a n0 n1 i0 i1 k idx : Nat} {f g : Nat → Int64} (hd : decode x.2.1 pc = .ok (.invokestatic idx, 3)) (hlink : Cond.methodLink x.1.cls idx arraycopyName ∈ lw_tbl) (hM0 : M a0 = .inl (2, n0, .inr (.inl f))) (ha0 : 8 ≤ a0) (hz0 : a0 < z) (hM : M a = .inl (2, n1, .inr (.inl g))) (ha : 8 ≤ a) (hz : a < z)
    (h4 : i0 + k ≤ n0) (h5 : i1 + k ≤ n1) (hb0 : n0 < 2 ^ 31) (hb1 : n1 < 2 ^ 31) (hdd : 1 ≤ d) (hsum : (st.map fun v => v.category).sum ≤ 8)
    (kk : hz_W κ x d mc ms P cn sn (pc + 3) lo st z (va_up M a (.inl (2, n1, .inr (.inl (va_cpy f g i0 i1 k)))))) : hz_W κ x d mc ms P cn sn pc lo (.int (nI k) :: .int (nI i1) :: .ref a :: .int (nI i0) :: .ref a0 :: st) z M :=
  hz_copyL0 hd hlink rfl rfl (fun _ _ => rfl) hM0 ha0 hz0 hM ha hz h4 h5 hb0 hb1 hdd hsum trivial kk
end HZY2
theorem i_nat {k : Int32} {n : Nat} (h0 : ¬ k < 0) (h1 : k < nI n) (hn : n < 2 ^ 31) : ∃ j, j < n ∧ k = nI j := by
  obtain ⟨j, hj, rfl⟩ := nI_of h0
  exact ⟨j, (nI_ltI hj hn).mp h1, rfl⟩
def outS : List (Nat × Nat) → Nat → Prop
  | [], _ => True
  | p :: S, q => (q < p.1 ∨ p.2 ≤ q) ∧ outS S q
/-- nothing changes outside the intervals -/
def frS (S : List (Nat × Nat)) (M M2 : hz_M) : Prop := ∀ q, outS S q → M2 q = M q
theorem frS.rf {S : List (Nat × Nat)} {M : hz_M} : frS S M M := fun _ _ => rfl
theorem frS.mono {S S2 : List (Nat × Nat)} {M M2 : hz_M} (h : frS S M M2) (e : ∀ q, outS S2 q → outS S q) : frS S2 M M2 := fun q hq => h q (e q hq)
theorem frS.tr {S : List (Nat × Nat)} {M M2 M3 : hz_M} (h : frS S M M2) (h2 : frS S M2 M3) : frS S M M3 := fun q hq => (h2 q hq).trans (h q hq)
theorem frS.up {S : List (Nat × Nat)} {M : hz_M} {a : Nat} {e : va_E} (h : ¬ outS S a) : frS S M (va_up M a e) := fun q hq => va_up_ne _ _ (fun c => h (c ▸ hq))
theorem frS.upr {S : List (Nat × Nat)} {M M2 : hz_M} {a : Nat} {e : va_E} (h : frS S M M2) (hn : ¬ outS S a) : frS S M (va_up M2 a e) := h.tr (frS.up hn)
theorem frl.toS {B : Nat} {os : List Nat} {S : List (Nat × Nat)} {M M2 : hz_M} (h : frl B os M M2) (e : ∀ o ∈ os, ¬ outS S (B + o)) : frS S M M2 := fun q hq => h q (fun o ho c => e o ho (c ▸ hq))
