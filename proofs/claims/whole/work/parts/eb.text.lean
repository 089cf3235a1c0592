/-! the texts -/
theorem fl_cs : Cond.fieldLink "java/lang/String" 38 "java/lang/String" "COMPACT_STRINGS" "Z" ∈ lw_tbl := hz_tm5 (List.mem_of_getElem? (i := 227) rfl)
theorem fl_co : Cond.fieldLink "java/lang/String" 15 "java/lang/String" "coder" "B" ∈ lw_tbl := hz_tm9 (List.mem_of_getElem? (i := 180) rfl)
theorem fl_va : Cond.fieldLink "java/lang/String" 9 "java/lang/String" "value" "[B" ∈ lw_tbl := hz_tm9 (List.mem_of_getElem? (i := 181) rfl)
theorem fl_si : Cond.fieldLink "java/lang/String" 1053 "jdk/internal/util/Preconditions" "SIOOBE_FORMATTER" "Ljava/util/function/BiFunction;" ∈ lw_tbl := hz_tm5 (List.mem_of_getElem? (i := 235) rfl)
theorem va_ldcwS {p : Program} {l : Launch} {e : Env} {R : Room} {s : State} {m : MethodId} {args : Array Value} {below : List Frame} {meth : Method} {c : Code} {T : State} {locs : List Loc} {cells slots : Nat} (X : Stand p l e R s m args below meth c T locs cells slots) (hexec : p.tables.exec = Jvm.exec) {own tx : String} {index q : Nat} (hown : s.vm.findClass own = some m.cls) (hZ : vk_R own index tx q s) {g : JFrame} (hg : g.method = m) (hdg : decode c.code g.pc = .ok (.ldc_w index, 3)) :
    ∀ target, Steps p.tables e below (T.setTop { g with pc := g.pc + 3, stack := .ref q :: g.stack }) target → Steps p.tables e below (T.setTop g) target := by
  obtain ⟨k, cf, i, a, hk, hcf, hcp, -, hr, hev⟩ := Cond.stringRef_spec (args := #[]) (first := s) (o := none) (s := s) (idx := []) hown hZ.1
  have ha : a = q := by
    have e9 := hev.symm.trans hZ.2
    injection e9 with e9
    injection e9
  subst ha
  have hW := X.warmed
  unfold State.WarmedH at hW
  obtain ⟨k', hk', he, hsz, hres, hn⟩ := hW.2.2 _ _ hk
  have hr' : k'.resolved[index]? = some (some (Resolved.string a)) := by
    rcases hres index with h | ⟨h, -⟩
    · exact h.trans hr
    · rw [hr] at h
      injection h with h
      cases h
  intro target hrest
  subst hg
  jvm_step X.here [hexec, hdg, ldc_w.wp_string (s := T) (f := g) X.here.top hk' (by rw [he]; exact hcf) hcp hr']
  exact hrest
section HQT
variable {κ : hz_C} {x : hz_X} {d mc ms : Nat} {P : hz_P} {cn sn pc : Nat} {lo : List (Nat × Value)} {st : List Value} {z : Nat} {M : hz_M}
theorem hq_ldcT0 (hx : x.1.cls = "ChainHouseModel") (hd : decode x.2.1 pc = .ok (.ldc_w 311, 3)) (kk : hq_W κ x d mc ms P cn sn (pc + 3) lo (.ref 4 :: st) z M) : hq_W κ x d mc ms P cn sn pc lo st z M := by
  intro p e s m args below meth c H locs ls F hzq hwd hS hl T hT X
  obtain ⟨t, a1, b1⟩ := kk p e s m args below meth c H locs ls F hzq hwd hS hl T hT X
  have hown := F.2.2.2.1
  rw [hx] at hown
  exact ⟨t, va_ldcwS X F.1 hown F.2.2.2.2.2.2.2.2.2.2.2.2.1 (g := F0 m pc ls (st.map (hz_rv κ))) rfl (by rw [F.2.1]; exact hd) t a1, b1⟩
theorem hq_ldcT1 (hx : x.1.cls = "ChainHouseModel") (hd : decode x.2.1 pc = .ok (.ldc_w 317, 3)) (kk : hq_W κ x d mc ms P cn sn (pc + 3) lo (.ref 5 :: st) z M) : hq_W κ x d mc ms P cn sn pc lo st z M := by
  intro p e s m args below meth c H locs ls F hzq hwd hS hl T hT X
  obtain ⟨t, a1, b1⟩ := kk p e s m args below meth c H locs ls F hzq hwd hS hl T hT X
  have hown := F.2.2.2.1
  rw [hx] at hown
  exact ⟨t, va_ldcwS X F.1 hown F.2.2.2.2.2.2.2.2.2.2.2.2.2.1 (g := F0 m pc ls (st.map (hz_rv κ))) rfl (by rw [F.2.1]; exact hd) t a1, b1⟩
theorem hq_getC (hx : x.1.cls = "java/lang/String") (hd : decode x.2.1 pc = .ok (.getstatic 38, 3)) (kk : hq_W κ x d mc ms P cn sn (pc + 3) lo (.int 1 :: st) z M) : hq_W κ x d mc ms P cn sn pc lo st z M := by
  intro p e s m args below meth c H locs ls F hzq hwd hS hl
  have hown := F.2.2.2.1
  rw [hx] at hown
  exact va_gets F.1 F.2.1 F.2.2.2.2.2.2.2.2.2.2.2.2.2.2.1 hS hown (F.2.2.2.2.1 _ (List.mem_cons_of_mem _ (hz_inT fl_cs rfl))) (fun _ h9 => h9) hd (kk p e s m args below meth c H locs ls F hzq hwd hS hl)
theorem hq_coder {t : Nat} (ht : t < 2) (hx : x.1.cls = "java/lang/String") (hd : decode x.2.1 pc = .ok (.getfield 15, 3)) (kk : hq_W κ x d mc ms P cn sn (pc + 3) lo (.int 0 :: st) z M) : hq_W κ x d mc ms P cn sn pc lo (.ref (4 + t) :: st) z M := by
  intro p e s m args below meth c H locs ls F hzq hwd hS hl
  have hown := F.2.2.2.1
  rw [hx] at hown
  exact vk_getf F.1 F.2.1 (F.2.2.2.2.2.2.2.2.2.2.2.1.1 t ht).2.1 hS hown (F.2.2.2.2.1 _ (List.mem_cons_of_mem _ (hz_inT fl_co rfl))) (fun _ h9 => h9) hd (kk p e s m args below meth c H locs ls F hzq hwd hS hl)
theorem hq_value {t : Nat} (ht : t < 2) (hx : x.1.cls = "java/lang/String") (hd : decode x.2.1 pc = .ok (.getfield 9, 3)) (kk : hq_W κ x d mc ms P cn sn (pc + 3) lo (.ref (6 + t) :: st) z M) : hq_W κ x d mc ms P cn sn pc lo (.ref (4 + t) :: st) z M := by
  intro p e s m args below meth c H locs ls F hzq hwd hS hl
  have hown := F.2.2.2.1
  rw [hx] at hown
  exact vk_getf F.1 F.2.1 (F.2.2.2.2.2.2.2.2.2.2.2.1.1 t ht).2.2.1 hS hown (F.2.2.2.2.1 _ (List.mem_cons_of_mem _ (hz_inT fl_va rfl))) (fun _ h9 => h9) hd (kk p e s m args below meth c H locs ls F hzq hwd hS hl)
theorem hq_alenT {t : Nat} (ht : t < 2) (hd : decode x.2.1 pc = .ok (.arraylength, 1)) (kk : hq_W κ x d mc ms P cn sn (pc + 1) lo (.int (nI (([64, 512] : List Nat).getD t 0)) :: st) z M) : hq_W κ x d mc ms P cn sn pc lo (.ref (6 + t) :: st) z M := by
  intro p e s m args below meth c H locs ls F hzq hwd hS hl
  exact va_tlen F.1 F.2.1 (F.2.2.2.2.2.2.2.2.2.2.2.1.1 t ht).2.2.2 hS rfl hd (kk p e s m args below meth c H locs ls F hzq hwd hS hl)
theorem hq_baldT {t j : Nat} (ht : t < 2) (hj : j < ([64, 512] : List Nat).getD t 0) (hj2 : j < 1000) (hd : decode x.2.1 pc = .ok (.baload, 1)) (kk : hq_W κ x d mc ms P cn sn (pc + 1) lo (.int ((([hz_tb0, hz_tb1] : List (List Int32)).getD t []).getD j 0) :: st) z M) : hq_W κ x d mc ms P cn sn pc lo (.int (nI j) :: .ref (6 + t) :: st) z M := by
  intro p e s m args below meth c H locs ls F hzq hwd hS hl
  have hl9 : ([64, 512] : List Nat).getD t 0 < 2 ^ 31 := (show ∀ t, t < 2 → ([64, 512] : List Nat).getD t 0 < 2 ^ 31 by decide) t ht
  obtain ⟨h1, h2⟩ := hz_vin (i := nI j) rfl hj hl9
  exact va_tb F.1 F.2.1 (F.2.2.2.2.2.2.2.2.2.2.2.1.1 t ht).2.2.2 hS h1 (by rw [h2]; rfl) hd (kk p e s m args below meth c H locs ls F hzq hwd hS hl)
end HQT
/-- the contract of Preconditions.checkIndex: what it carries doesn't count -/
def hq_P3 (κ : hz_C) (i n z : Nat) (M : hz_M) : Array Value → State → Prop := fun v U => (∃ w : Value, (w = .null ∨ ∃ t, w = .ref t) ∧ v = #[.int (nI i), .int (nI n), w]) ∧ hz_wd κ M z U.heap ∧ va_K κ.2.1 hz_kl (hz_tys κ) U ∧ hz_Z κ U U.heap ∧ hz_kw κ
set_option maxHeartbeats 4000000 in
set_option maxRecDepth 100000 in
theorem cJ3 {κ : hz_C} {i n z : Nat} {M : hz_M} (hi : i < n) (hn : n < 2 ^ 31) : Met κ.1 xJ3_checkIndex_8e157.1 (hz_ws xJ3_checkIndex_8e157) (hz_rm 0 0 0) (hq_P3 κ i n z M) (hz_Q κ (hz_ex (some (.int (nI i))) z M)) 0 0 (hz_A κ) := by
  have k0 : hz_W κ xJ3_checkIndex_8e157 0 0 0 (hz_ex (some (.int (nI i))) z M) 0 0 0 [(0, .int (nI i)), (1, .int (nI n))] [] z M := by
    refine hz_iloadn (pc := 0) 0 (hz_dec kJ3_checkIndex_8e157 0 rfl) rfl ?_
    refine hz_z_lt (pc := 1) (tgt := 9) (hz_dec kJ3_checkIndex_8e157 1 rfl) (by decide) (by omega) ?_
    refine hz_iloadn (pc := 4) 0 (hz_dec kJ3_checkIndex_8e157 2 rfl) rfl ?_
    refine hz_iloadn (pc := 5) 1 (hz_dec kJ3_checkIndex_8e157 3 rfl) rfl ?_
    refine hz_n_lt (pc := 6) (tgt := 16) (hz_dec kJ3_checkIndex_8e157 4 rfl) (by decide) (by omega) (by omega) (fun h2 => ?_) (fun h2 => ?_)
    · skip
      refine hz_iloadn (pc := 16) 0 (hz_dec kJ3_checkIndex_8e157 10 rfl) rfl ?_
      exact hz_iret (pc := 17) (hz_dec kJ3_checkIndex_8e157 11 rfl) rfl ⟨rfl, rfl, rfl⟩
    · skip
      exact absurd hi (by omega)
  refine Met.ofW (cc := xJ3_checkIndex_8e157.2.1) (maxL := xJ3_checkIndex_8e157.2.2.1) (ret := xJ3_checkIndex_8e157.2.2.2) (ws' := hz_T) (by decide) rfl ?_
  intro p e s m args below meth c s₁ B hml hv
  obtain ⟨⟨w, hw, rfl⟩, hwd, hK, hZ, hkw⟩ := hv
  have hts := atoms_spec (ws := hz_ws xJ3_checkIndex_8e157) B.pre
  have hl2 : lv_has ((lg_sl [.int (nI i), .int (nI n), w] ++ List.replicate (3 - (lg_sl [.int (nI i), .int (nI n), w]).length) Slot.unset).toArray) 3 [(0, .int (nI i)), (1, .int (nI n))] := by
    rcases hw with rfl | ⟨t, rfl⟩
    · exact lv_sub (lv_entry [.int (nI i), .int (nI n), .null] (n := 3) (Nat.le_of_ble_eq_true rfl)) [0, 1] rfl
    · exact lv_sub (lv_entry [.int (nI i), .int (nI n), .ref t] (n := 3) (Nat.le_of_ble_eq_true rfl)) [0, 1] rfl
  rw [lg_entry_eq]
  exact k0 p e s m _ below meth c s.heap [] _ ⟨B.exec, B.bytes, hml, findClass_of_methodNamed B.named, hts, B.returns, B.notSynchronized, (name_of_methodNamed B.named B.method).1, hkw, hK, hZ⟩ hwd va_S.rf hl2
