/-! the law's beginning -/
def xL_cell : hz_X := (⟨R_law, "cell", "([II)I"⟩, method_2_code, 2, some .int)
def tC : List (Nat × Instr × Nat) := [(0, .iload_n 1, 1), (1, .aload_n 0, 1), (2, .arraylength, 1), (3, .if_icmp .ge 9, 3), (6, .aload_n 0, 1), (7, .iload_n 1, 1), (8, .iaload, 1), (9, .goto 4, 3), (12, .iconst 0, 1), (13, .ireturn, 1)]
theorem kC : hz_tab xL_cell.2.1 tC = true := by decide +kernel
theorem cd_cell : Cond.code xL_cell.1 xL_cell.2.1 xL_cell.2.2.1 xL_cell.2.2.2 ∈ lw_tbl := hz_tm5 (List.mem_of_getElem? (i := 199) rfl)
theorem sc_cell : Cond.static xL_cell.1 ∈ lw_tbl := hz_tm5 (List.mem_of_getElem? (i := 198) rfl)
theorem ini_law : Cond.initialized xL_cell.1.cls ∈ lw_tbl := hz_tm1 (List.mem_of_getElem? (i := 0) rfl)
theorem co_L_9 : hz_co R_law 9 xL_cell 2 := ⟨hz_tm5 (List.mem_of_getElem? (i := 197) rfl), cd_cell, ini_law, ⟨by decide +kernel, by decide +kernel, by decide +kernel⟩, by decide⟩
theorem cl_L_7 : Cond.classLink R_law 7 RX11 ∈ lw_tbl := hz_tm1 (List.mem_of_getElem? (i := 21) rfl)
theorem cl_L_18 : Cond.classLink R_law 18 RX12 ∈ lw_tbl := hz_tm5 (List.mem_of_getElem? (i := 200) rfl)
theorem ls_si : Cond.laysStatic "jdk/internal/util/Preconditions" "SIOOBE_FORMATTER" "Ljava/util/function/BiFunction;" ∈ lw_tbl := hz_tm5 (List.mem_of_getElem? (i := 236) rfl)
def cv (L : Nat) (xs : Nat → Int32) : Int32 := if 0 < L then xs 0 else 0
def hc_P (κ : hz_C) (bb_ L : Nat) (xs : Nat → Int32) (z : Nat) (M : hz_M) : Array Value → State → Prop := fun v U => v = #[.ref bb_, .int (nI 0)] ∧ (va_X bb_ L xs U U.heap ∧ bb_ < U.heap.size ∧ ¬ hz_A κ bb_) ∧ hz_wd κ M z U.heap ∧ va_K κ.2.1 hz_kl (hz_tys κ) U ∧ hz_Z κ U U.heap ∧ hz_kw κ
theorem hc_bl (κ : hz_C) (bb_ L : Nat) (xs : Nat → Int32) (z : Nat) (M : hz_M) : FrameBlind (hc_P κ bb_ L xs z M) := by
  intro a U g mk h
  obtain ⟨h1, ⟨hX, hb, hA⟩, h2, h3, h4, h5⟩ := h
  exact ⟨h1, ⟨va_X.moved (u := U) (U := U.calling g mk a) (Vm.Alike.refl U.vm) hX, hb, hA⟩, h2, va_K.moved (u := U) (U := U.calling g mk a) (Vm.Alike.refl U.vm) h3, h4.calls g mk a, h5⟩
theorem c_cell {κ : hz_C} {bb_ L : Nat} {xs : Nat → Int32} {z : Nat} {M : hz_M} (hL : L ≤ 385) : Met κ.1 xL_cell.1 (hz_ws xL_cell) (hz_rm 0 0 0) (hc_P κ bb_ L xs z M) (hz_Q κ (hz_ex (some (.int (cv L xs))) z M)) 0 0 (hz_A κ) := by
  have k13 : ∀ v, v = cv L xs → hz_W κ xL_cell 0 0 0 (hz_ex (some (.int (cv L xs))) z M) 0 0 13 [] [.int v] z M := fun v hv => by
    subst hv
    exact hz_iret (pc := 13) (hz_dec kC 9 rfl) rfl ⟨rfl, rfl, rfl⟩
  have k9 : ∀ v, v = cv L xs → hz_W κ xL_cell 0 0 0 (hz_ex (some (.int (cv L xs))) z M) 0 0 9 [] [.int v] z M := fun v hv => hz_goto (pc := 9) (tgt := 13) (hz_dec kC 7 rfl) (by decide) (k13 v hv)
  have k12 : (0 : Int32) = cv L xs → hz_W κ xL_cell 0 0 0 (hz_ex (some (.int (cv L xs))) z M) 0 0 12 [] [] z M := fun hv => hz_iconst (pc := 12) (v := 0) (hz_dec kC 8 rfl) (by decide) (k13 0 hv)
  refine Met.ofW (cc := xL_cell.2.1) (maxL := xL_cell.2.2.1) (ret := xL_cell.2.2.2) (ws' := hz_T) (by decide) rfl ?_
  intro p e s m args below meth c s₁ B hml hv
  obtain ⟨rfl, ⟨hX, hbl, hnA⟩, hwd, hK, hZ, hkw⟩ := hv
  have hts := atoms_spec (ws := hz_ws xL_cell) B.pre
  have hl := lv_entry [.ref bb_, .int (nI 0)] (n := 2) (Nat.le_of_ble_eq_true rfl)
  have F : hz_fr κ xL_cell p s m #[.ref bb_, .int (nI 0)] meth c := ⟨B.exec, B.bytes, hml, findClass_of_methodNamed B.named, hts, B.returns, B.notSynchronized, (name_of_methodNamed B.named B.method).1, hkw, hK, hZ⟩
  rw [lg_entry_eq]
  refine lv_iload_n F.1 F.2.1 (hz_dec kC 0 rfl) rfl (lv_at hl 1 rfl) ?_
  refine lv_aload_n F.1 F.2.1 (hz_dec kC 1 rfl) rfl (lv_at hl 0 rfl) ?_
  refine va_slen (A := hz_A κ) F.1 F.2.1 hX hbl hnA va_S.rf (hz_dec kC 2 rfl) ?_
  refine lv_icmp_ge F.1 F.2.1 (tgt := 12) (hz_dec kC 3 rfl) (by decide) (fun q => ?_) (fun q => ?_)
  · have hl0 : L ≤ 0 := (nI_leI (by omega) (by decide)).mp q
    exact k12 (by unfold cv; rw [if_neg (by omega)]) p e s m _ below meth c s.heap [] _ F hwd va_S.rf (lv_sub hl [] rfl)
  · have hl0 : 0 < L := Nat.lt_of_not_le (fun h => q ((nI_leI (by omega) (by decide)).mpr h))
    obtain ⟨q1, q2⟩ := hz_vin (i := nI 0) (j := 0) rfl hl0 (by omega)
    refine lv_aload_n F.1 F.2.1 (hz_dec kC 4 rfl) rfl (lv_at hl 0 rfl) ?_
    refine lv_iload_n F.1 F.2.1 (hz_dec kC 5 rfl) rfl (lv_at hl 1 rfl) ?_
    refine va_sld (A := hz_A κ) F.1 F.2.1 hX hbl hnA va_S.rf q1 (hz_dec kC 6 rfl) ?_
    rw [q2]
    exact k9 (xs 0) (by unfold cv; rw [if_pos hl0]) p e s m _ below meth c s.heap [] _ F hwd va_S.rf (lv_sub hl [] rfl)
section LZ0
variable {κ : hz_C} {bb_ L : Nat} {xs : Nat → Int32} {cn sn pc : Nat} {lo : List (Nat × Value)} {st : List Value} {z : Nat} {M : hz_M}
theorem lz_cell (hL : L ≤ 385) (h0 : decode code pc = .ok (.aload_n 0, 1)) (h1 : decode code (pc + 1) = .ok (.iconst 0, 1)) (h2 : decode code (pc + 2) = .ok (.invokestatic 9, 3)) (hc : cn ≤ 600000) (hs : sn ≤ 7302250) (hsum : (st.map fun v => v.category).sum ≤ 8) (kk : lz_W κ bb_ L xs cn sn (pc + 5) lo (.int (cv L xs) :: st) z M) : lz_W κ bb_ L xs cn sn pc lo st z M := by
  intro p e s m below meth c H locs ls F hwd hS hl
  refine lv_aload_n F.1.1 F.1.2.1 h0 rfl (lv_at hl 0 rfl) ?_
  refine lv_iconst F.1.1 F.1.2.1 (v := nI 0) h1 (by decide) ?_
  refine hz_back (rest := st.map (hz_rv κ)) (P2 := hz_ex (some (.int (cv L xs))) z M) (mc2 := 0) (ms2 := 0) (va_runS (As := [.ref bb_, .int (nI 0)]) ⟨F.1.1, F.1.2.1, F.1.2.2.2.1, F.1.2.2.2.2.1, F.1.2.2.2.2.2.1⟩ (c_cell (κ := κ) (bb_ := bb_) (xs := xs) (z := z) (M := M) hL) ⟨lz_cb F co_L_9 (d2 := 0) (by decide), F.1.2.2.2.2.2.1 _ sc_cell⟩ ⟨hc_bl κ bb_ L xs z M, fun U hU hW => ⟨rfl, ⟨va_X.moved hW.alike (by rw [hU]; exact va_X.kept F.1.2.2.2.2.2.2.1 (hS.2.1 bb_ F.1.2.2.2.2.2.2.2.1 (lz_nA F))), by rw [hU]; exact Nat.lt_of_lt_of_le F.1.2.2.2.2.2.2.2.1 hS.1, lz_nA F⟩, by rw [hU]; exact hwd, va_K.moved hW.alike F.2.2.1, by rw [hU]; exact F.2.2.2.1.warm hW hS.2.1, F.2.1⟩⟩ rfl rfl hl.1 rfl (lv_room (hz_stm hsum)) h2 ⟨hc, hs⟩) hS (fun r z2 M2 H1 locs1 hp hw2 hS2 => ?_)
  obtain ⟨rfl, rfl, rfl⟩ := hp
  exact kk p e s m below meth c H1 locs1 ls F hw2 hS2 hl
theorem lz_new {idx ci N : Nat} {C : String} {T : u_T} {fs : List Value} (hd : decode code pc = .ok (.new idx, 3)) (hcl : hz_kl[ci]? = some (C, T, N)) (hin : ∀ w ∈ u_ws C T N, w ∈ lw_tbl) (ty : Nat → FieldType) (hty : ∀ k, k < N → parseFieldDescriptor (T k).2.2.1 = some (ty k)) (hlk : Cond.classLink R_law idx C ∈ lw_tbl) (hinst : Cond.instantiable C N ∈ lw_tbl) (hini : Cond.initialized C ∈ lw_tbl) (hfs : ∀ j, j < N → defaultValue (ty j) = vp_V fs j) (hfr : fs.map (hz_rv κ) = fs) (hc : cn + 1 ≤ 600000) (hs : sn + N ≤ 7302250)
    (kk : lz_W κ bb_ L xs (cn + 1) (sn + N) (pc + 3) lo (.ref z :: st) (z + 1) (va_up M z (.inr (ci, fs)))) : lz_W κ bb_ L xs cn sn pc lo st z M := by
  intro p e s m below meth c H locs ls F hwd hS hl
  have hw := F.2.1
  have hK := F.2.2.1
  have ez := hz_adz hwd hw
  have hKn := hK.1 ci _ hcl
  refine W.newcK F.1.1 F.1.2.1 F.1.2.2.2.2.1 (F.1.2.2.2.2.2.1 _ hlk) (F.1.2.2.2.2.2.1 _ hinst) (F.1.2.2.2.2.2.1 _ hini) rfl hd hc hs hKn.2.1 rfl fun H1 kC hkC e1 z1 o1 => ?_
  have he : va_at κ.2.1 hz_kl (κ.2.2.2.1 z, hz_re κ (.inr (ci, fs))) H1 := by
    rw [ez]
    show va_at κ.2.1 hz_kl (H.size, .inr (ci, fs.map (hz_rv κ))) H1
    rw [hfr]
    exact ⟨_, hcl, (u_born ty F.1.2.2.2.2.2.1 hin hKn hkC e1 hty).to hfs⟩
  have hwd1 := hwd.new hw he trivial z1 o1
  have hS1 : va_S (hz_A κ) s.heap H1 locs := ⟨Nat.le_trans hS.1 (by omega), fun y h1 h2 => (o1 y (Nat.lt_of_lt_of_le h1 hS.1)).trans (hS.2.1 y h1 h2), hS.2.2⟩
  have q := kk p e s m below meth c H1 locs ls F hwd1 hS1 hl
  have eq9 : (Value.ref z :: st).map (hz_rv κ) = Value.ref H.size :: st.map (hz_rv κ) := by
    show Value.ref (κ.2.2.2.1 z) :: st.map (hz_rv κ) = _
    rw [ez]
  rw [eq9] at q
  exact q
theorem lz_Zq {p : Program} {s : State} {m : MethodId} {meth : Method} {c : Code} (F : lz_F κ p s m meth c bb_ L xs) : hq_Z κ s :=
  va_Zqof (F.1.2.2.2.2.2.1 _ ls_si) (F.1.2.2.2.2.2.1 _ ini_J3) (flat_of_before _ F.1.2.2.2.2.2.2.2.2.2 (Cond.isRef (.static "jdk/internal/util/Preconditions" "SIOOBE_FORMATTER" "Ljava/util/function/BiFunction;")) (by decide +kernel)) (fun a ha hA => by
    have h1 : κ.2.2.2.2 ≤ a := hA
    have h2 := F.2.2.2.2
    omega)
theorem lz_preQ {As : List Value} {p : Program} {s : State} {m : MethodId} {meth : Method} {c : Code} {H : Heap} {locs : List Loc} (F : lz_F κ p s m meth c bb_ L xs) (hwd : hz_wd κ M z H) (hS : va_S (hz_A κ) s.heap H locs) : ∀ U : State, U.heap = H → s.WarmedH U.vm → hq_Pc κ As z M (As.map (hz_rv κ)).toArray U := by
  intro U hU hW
  refine ⟨lz_pre F hwd hS U hU hW, ?_⟩
  show va_Zq "jdk/internal/util/Preconditions" "SIOOBE_FORMATTER" "Ljava/util/function/BiFunction;" (hz_A κ) U U.heap
  rw [hU]
  exact va_Zq.moved hW.alike (va_Zq.kept (lz_Zq F) hS.2.1)
theorem lz_callIQ {idx n d2 mc2 ms2 : Nat} {x2 : hz_X} {P2 : hz_P} {As stA : List Value} {a : Nat} (hd : decode code pc = .ok (.invokespecial idx, 3)) (hc : hz_co R_law idx x2 n) (hi : Cond.instanceMethod x2.1 ∈ lw_tbl) (hnm : x2.1.name = "<init>") (hret : x2.2.2.2 = none) (hM : hq_Mt κ x2 d2 mc2 ms2 (.ref a :: As) z M P2) (hn : As.length = n) (hdd : d2 ≤ 1000) (hrm : cn + mc2 ≤ 600000 ∧ sn + ms2 ≤ 7302250) (hsum : (st.map fun v => v.category).sum ≤ 8) (hst : As.reverse ++ .ref a :: st = stA)
    (kk : ∀ (r : Option Value) (z2 : Nat) (M2 : hz_M), P2 r z2 M2 → lz_W κ bb_ L xs (cn + mc2) (sn + ms2) (pc + 3) lo (r.toList ++ st) z2 M2) : lz_W κ bb_ L xs cn sn pc lo stA z M := by
  intro p e s m below meth c H locs ls F hwd hS hl
  subst hst
  have hcb := lz_cb (mc2 := mc2) (ms2 := ms2) F hc hdd
  rw [hret] at hcb
  refine hz_back (rest := st.map (hz_rv κ)) (va_runI (b := κ.2.2.2.1 a) (As := As.map (hz_rv κ)) ⟨F.1.1, F.1.2.1, F.1.2.2.2.1, F.1.2.2.2.2.1, F.1.2.2.2.2.2.1⟩ hM ⟨hcb, hnm, F.1.2.2.2.2.2.1 _ hi⟩ ⟨hq_blind κ (.ref a :: As) z M, lz_preQ F hwd hS⟩ rfl (by rw [List.length_map]; exact hn) hl.1 (by rw [List.map_append, List.map_reverse]; rfl) (lv_room (hz_stm hsum)) hd hrm) hS (fun r z2 M2 H1 locs1 hp hw2 hS2 => ?_)
  rw [← hz_tl]
  exact kk r z2 M2 hp p e s m below meth c H1 locs1 ls F hw2 hS2 hl
theorem lz_mem {M2 : hz_M} {z2 : Nat} (h : M = M2) (hz : z = z2) (k : lz_W κ bb_ L xs cn sn pc lo st z2 M2) : lz_W κ bb_ L xs cn sn pc lo st z M := by subst h hz; exact k
end LZ0
/-! a new house -/
theorem hoZ_G {nn : Nat} (h6 : nn ≤ 6) : hoG fiF (hoZ nn) := by
  refine ⟨⟨fun v hv => ?_, fun k _ => Nat.zero_le 9, fun m hm => by cases hm⟩, Nat.zero_le _, fun v hv => ?_, by rw [hoZ_l]; exact h6, Nat.zero_le _, Nat.zero_le _⟩
  · rw [hoZ_l] at hv
    rw [hoZ_n hv]
    exact ⟨fi_I _, Nat.one_pos, fun q hq => (by cases hq), poW_nil, ⟨Nat.zero_le _, fun k hk => absurd hk (Nat.not_lt_zero k)⟩⟩
  · rw [hoZ_l] at hv
    rw [hoZ_n hv]
    rfl
theorem hcR.z {M : hz_M} {z z2 : Nat} {H : ho_H} {ll : Nat} {fr kn : Int32} (h : hcR M z H ll fr kn) (hz : 63 ≤ z2) : hcR M z2 H ll fr kn := by
  obtain ⟨a1, a2, a3, a4, a5⟩ := h
  exact ⟨a1, a2, a3, a4.z hz, a5⟩
set_option maxHeartbeats 4000000 in
set_option maxRecDepth 100000 in
theorem lw_0 {κ : hz_C} {bb_ L : Nat} {xs : Nat → Int32} (hL : L ≤ 385) (M : hz_M) : lz_W κ bb_ L xs 0 0 0 [] [] 8 M := by
  obtain ⟨nn, hn1, hn6, hnn⟩ := mV_n (cv L xs)
  refine lz_new (pc := 0) (ci := 11) (fs := [.null, .null, .null, .null, .null, .null, .null, .null, .int (nI 0), .int (nI 0), .null, .null, .null]) (hz_dec kL0 0 rfl) rfl inX11 tyX11 tyX11_ok cl_L_7 is_X11 ini_X11 df_X11 rfl (by decide) (by decide) ?_
  refine lz_dup (pc := 3) (hz_dec kL0 1 rfl) rfl ?_
  refine lz_cell (pc := 4) hL (hz_dec kL0 2 rfl) (hz_dec kL0 3 rfl) (hz_dec kL0 4 rfl) (by decide) (by decide) (Nat.le_of_ble_eq_true rfl) ?_
  refine lz_callI (pc := 9) (a := 8) (As := [.int (cv L xs)]) (st := [.ref 8]) (hz_dec kL0 5 rfl) co_L_15 im_X11_init rfl rfl (c_i11 hn1 hn6 hnn (va_up_self _ _ _)) rfl (by decide) ⟨by decide, by decide⟩ (Nat.le_of_ble_eq_true rfl) rfl (fun r9 z9 M1 hp9 => ?_)
  obtain ⟨rfl, rfl, hR1⟩ := hp9
  refine lz_astoren (pc := 12) (i := 1) (lo2 := [(1, .ref 8)]) (hz_dec kL0 6 rfl) rfl (by decide) (by decide) rfl ?_
  refine lz_new (pc := 13) (ci := 12) (fs := [.int (nI 0), .int (nI 0), .null, .null, .null, .null, .null, .null, .null, .null, .null, .null, .null, .null, .null, .null, .int (nI 0), .null, .null, .null, .null, .null, .null, .null, .null, .null, .null, .null, .null, .null, .null, .null, .null, .null, .null, .null, .null, .int (nI 0), .null, .int (nI 0), .null, .null, .null, .null, .null, .null, .null, .null, .null, .null, .null, .null, .null, .int (nI 0), .int (nI 0), .int (nI 0), .null, .null, .null, .long 0, .null, .int (nI 0), .null, .null, .null, .null, .null, .null, .null, .null, .null, .null, .null, .null, .null, .null, .null, .null, .null, .null, .null, .null, .null, .null, .null, .null, .int (nI 0), .int (nI 0), .int (nI 0), .int (nI 0), .null, .null, .int (nI 0), .null, .null, .int (nI 0), .int (nI 0), .null, .null, .null, .int (nI 0), .null, .null, .int (nI 0), .null, .null]) (hz_dec kL0 7 rfl) rfl inX12 tyX12 tyX12_ok cl_L_18 is_X12 ini_X12 df_X12 rfl (by decide) (by decide) ?_
  refine lz_dup (pc := 16) (hz_dec kL0 8 rfl) rfl ?_
  refine lz_cell (pc := 17) hL (hz_dec kL0 9 rfl) (hz_dec kL0 10 rfl) (hz_dec kL0 11 rfl) (by decide) (by decide) (Nat.le_of_ble_eq_true rfl) ?_
  refine lz_callIQ (pc := 22) (a := 63 + 34 * nn) (As := [.int (cv L xs)]) (st := [.ref (63 + 34 * nn)]) (hz_dec kL0 12 rfl) co_L_20 im_X12_init rfl rfl (c_i12 (B := 63 + 34 * nn) (by omega) hn1 hn6 hnn (va_up_self _ _ _)) rfl (by decide) ⟨by decide, by decide⟩ (Nat.le_of_ble_eq_true rfl) rfl (fun r9 z9 M2 hp9 => ?_)
  obtain ⟨rfl, rfl, hq2, hR2, hF2⟩ := hp9
  refine lz_astoren (pc := 25) (i := 2) (lo2 := [(2, .ref (63 + 34 * nn)), (1, .ref 8)]) (hz_dec kL0 13 rfl) rfl (by decide) (by decide) rfl ?_
  refine lz_iconst (pc := 26) (v := nI 1) (hz_dec kL0 14 rfl) (by decide) ?_
  refine lz_istoren (pc := 27) (i := 3) (lo2 := [(3, .int (nI 1)), (2, .ref (63 + 34 * nn)), (1, .ref 8)]) (hz_dec kL0 15 rfl) rfl (by decide) (by decide) rfl ?_
  refine lz_pick (pc := 28) (lo2 := [(3, .int (nI 1)), (1, .ref 8), (2, .ref (63 + 34 * nn))]) [0, 2, 1] rfl ?_
  have hR3 : hcR M2 (63 + 34 * nn + 88) (hoZ nn) 0 0 0 := (hR1.e (fun q q1 q2 => (hq2 q (by rw [hoZ_l] at q2; omega)).trans (va_up_ne _ _ (by rw [hoZ_l] at q2; omega)))).z (by omega)
  exact lw_loop (F := fiF) (by decide) (by decide) (by omega) (L - 1) 1 M2 (hoZ nn) rfl (by decide) ⟨hoZ_G hn6, ⟨0, 0, 0, hR3⟩, hR2, hF2, by rw [hoZ_l]; exact Nat.le_refl _⟩
