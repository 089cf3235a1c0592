/-! new cells -/
theorem hz_wd.new {κ : hz_C} {M : hz_M} {z : Nat} {H H1 : Heap} {e : va_E} (h : hz_wd κ M z H) (hw : hz_kw κ) (he : va_at κ.2.1 hz_kl (κ.2.2.2.1 z, hz_re κ e) H1) (hbf : hz_bf e) (hs : H1.size = H.size + 1) (oq : ∀ q, q < H.size → H1[q]? = H[q]?) : hz_wd κ (va_up M z e) (z + 1) H1 := by
  have h8 := h.1
  have hsz := h.2.1
  refine ⟨by omega, by omega, fun k hk => ?_, fun k hk hkz => ?_⟩
  · rw [va_up_ne M e (show k ≠ z by omega)]
    exact h.2.2.1 k hk
  · by_cases hka : k = z
    · subst hka
      rw [va_up_self]
      exact ⟨he, hbf⟩
    · rw [va_up_ne M e hka]
      have hq : κ.2.2.2.1 k < H.size := by rw [hw.1 k hk]; omega
      exact ⟨(h.2.2.2 k hk (by omega)).1.kept (oq _ hq), (h.2.2.2 k hk (by omega)).2⟩
theorem hz_adz {κ : hz_C} {M : hz_M} {z : Nat} {H : Heap} (h : hz_wd κ M z H) (hw : hz_kw κ) : κ.2.2.2.1 z = H.size := by
  rw [hw.1 z h.1, h.2.1]
section HZN
variable {κ : hz_C} {x : hz_X} {d mc ms : Nat} {P : hz_P} {cn sn pc : Nat} {lo : List (Nat × Value)} {st : List Value} {z : Nat} {M : hz_M}
theorem hz_newa {atype : ArrayType} {t n : Nat} {g : (Nat → Int32) ⊕ (Nat → Int64) ⊕ (Nat → UInt32) ⊕ (Nat → UInt64) ⊕ (Nat → Option Nat)} (hd : decode x.2.1 pc = .ok (.newarray atype, 2)) (harr : Cond.arrayClass (newarray.typeOf atype) ∈ lw_tbl) (ht : (hz_tys κ)[t]? = some (κ.2.2.1 t, newarray.typeOf atype)) (hre : hz_re κ (.inl (t, n, g)) = .inl (κ.2.2.1 t, n, g)) (hg : ∀ cA : ClassId, vp_cell cA (n, g) = arrV cA n (fun _ => defaultValue (newarray.typeOf atype))) (hbf : hz_bf (.inl (t, n, g))) (hn : n < 2 ^ 30) (hby : n * componentBytes (newarray.typeOf atype) ≤ 536870912) (hc : cn + 1 ≤ mc) (hs : sn + n ≤ ms)
    (kk : hz_W κ x d mc ms P (cn + 1) (sn + n) (pc + 2) lo (.ref z :: st) (z + 1) (va_up M z (.inl (t, n, g)))) : hz_W κ x d mc ms P cn sn pc lo (.int (nI n) :: st) z M := by
  intro p e s m args below meth c H locs ls F hwd hS hl
  have hw := F.2.2.2.2.2.2.2.2.1
  have hK := F.2.2.2.2.2.2.2.2.2.1
  have ez := hz_adz hwd hw
  refine va_newaK F.1 F.2.1 (F.2.2.2.2.1 _ (List.mem_cons_of_mem _ (hz_inT harr rfl))) rfl hd rfl (nI_pos (by omega)) (hz_vin (j := n) (n := n + 1) rfl (Nat.lt_succ_self n) (by omega)).2 hby hc hs rfl (fun H1 cA e1 z1 o1 hAr hNm => ?_)
  have h2 := (hK.2 t _ ht).2
  have h3 : s.vm.findClass ("[" ++ (newarray.typeOf atype).toString) = some (κ.2.2.1 t) := by cases atype <;> exact h2
  have h4 : κ.2.2.1 t = cA := Option.some.inj (h3.symm.trans hNm)
  have he : va_at κ.2.1 hz_kl (κ.2.2.2.1 z, hz_re κ (.inl (t, n, g))) H1 := by
    rw [hre, ez, h4]
    show H1[H.size]? = some (vp_cell cA (n, g))
    rw [hg]
    exact e1
  have hwd1 := hwd.new hw he hbf z1 o1
  have hS1 : va_S (hz_A κ) s.heap H1 locs := ⟨Nat.le_trans hS.1 (by omega), fun y h1 h2 => (o1 y (Nat.lt_of_lt_of_le h1 hS.1)).trans (hS.2.1 y h1 h2), hS.2.2⟩
  have q := kk p e s m args below meth c H1 locs ls F hwd1 hS1 hl
  have eq9 : (Value.ref z :: st).map (hz_rv κ) = Value.ref H.size :: st.map (hz_rv κ) := by
    show Value.ref (κ.2.2.2.1 z) :: st.map (hz_rv κ) = _
    rw [ez]
  rw [eq9] at q
  exact q
theorem hz_new {idx ci N : Nat} {C : String} {T : u_T} {fs : List Value} (hd : decode x.2.1 pc = .ok (.new idx, 3)) (hcl : hz_kl[ci]? = some (C, T, N)) (hin : ∀ w ∈ u_ws C T N, w ∈ lw_tbl) (ty : Nat → FieldType) (hty : ∀ k, k < N → parseFieldDescriptor (T k).2.2.1 = some (ty k)) (hlk : Cond.classLink x.1.cls idx C ∈ lw_tbl) (hinst : Cond.instantiable C N ∈ lw_tbl) (hini : Cond.initialized C ∈ lw_tbl) (hfs : ∀ j, j < N → defaultValue (ty j) = vp_V fs j) (hfr : fs.map (hz_rv κ) = fs) (hc : cn + 1 ≤ mc) (hs : sn + N ≤ ms)
    (kk : hz_W κ x d mc ms P (cn + 1) (sn + N) (pc + 3) lo (.ref z :: st) (z + 1) (va_up M z (.inr (ci, fs)))) : hz_W κ x d mc ms P cn sn pc lo st z M := by
  intro p e s m args below meth c H locs ls F hwd hS hl
  have hw := F.2.2.2.2.2.2.2.2.1
  have hK := F.2.2.2.2.2.2.2.2.2.1
  have ez := hz_adz hwd hw
  have hKn := hK.1 ci _ hcl
  refine W.newcK F.1 F.2.1 F.2.2.2.1 (F.2.2.2.2.1 _ (List.mem_cons_of_mem _ (hz_inT hlk rfl))) (F.2.2.2.2.1 _ (List.mem_cons_of_mem _ (hz_inT hinst rfl))) (F.2.2.2.2.1 _ (List.mem_cons_of_mem _ (hz_inT hini rfl))) rfl hd hc hs hKn.2.1 rfl fun H1 kC hkC e1 z1 o1 => ?_
  have he : va_at κ.2.1 hz_kl (κ.2.2.2.1 z, hz_re κ (.inr (ci, fs))) H1 := by
    rw [ez]
    show va_at κ.2.1 hz_kl (H.size, .inr (ci, fs.map (hz_rv κ))) H1
    rw [hfr]
    exact ⟨_, hcl, (u_born ty F.2.2.2.2.1 (fun w hw9 => List.mem_cons_of_mem _ (hz_inU hin w hw9)) hKn hkC e1 hty).to hfs⟩
  have hwd1 := hwd.new hw he trivial z1 o1
  have hS1 : va_S (hz_A κ) s.heap H1 locs := ⟨Nat.le_trans hS.1 (by omega), fun y h1 h2 => (o1 y (Nat.lt_of_lt_of_le h1 hS.1)).trans (hS.2.1 y h1 h2), hS.2.2⟩
  have q := kk p e s m args below meth c H1 locs ls F hwd1 hS1 hl
  have eq9 : (Value.ref z :: st).map (hz_rv κ) = Value.ref H.size :: st.map (hz_rv κ) := by
    show Value.ref (κ.2.2.2.1 z) :: st.map (hz_rv κ) = _
    rw [ez]
  rw [eq9] at q
  exact q
end HZN
