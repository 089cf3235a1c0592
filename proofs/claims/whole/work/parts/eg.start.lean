/-! the start: what the Statement gives -/
theorem fam_use {args : Array Value} {s : State} {L : List Cond} (hs : ∀ w ∈ L, w.before args s = true) (a n : Nat) (f : Nat → Cond) (h : (L.drop a).take n = (List.range n).map f) : ∀ j, j < n → (f j).before args s = true := fun j hj => hs _ (List.mem_of_mem_drop (List.mem_of_mem_take (h ▸ List.mem_map.mpr ⟨j, List.mem_range.mpr hj, rfl⟩)))
theorem vk_S.cg {N : Nat} {len : List Nat} {byt : List (List Int32)} {adK adV aK aV : Nat → Nat} {A : Nat → Prop} {U : State} {H : Heap} (h : vk_S N len byt adK adV A U H) (e : ∀ i, i < N → adK i = aK i ∧ adV i = aV i) : vk_S N len byt aK aV A U H := by
  refine ⟨fun i hi => ?_, fun i j hi hj q => ?_⟩
  · rw [← (e i hi).1, ← (e i hi).2]
    exact h.1 i hi
  · rw [← (e i hi).1, ← (e j hj).1] at q
    exact h.2 i j hi hj q
def ad8 (t0 t1 t2 t3 k0 k1 v0 v1 base : Nat) : Nat → Nat
  | 0 => t0
  | 1 => t1
  | 2 => t2
  | 3 => t3
  | 4 => k0
  | 5 => k1
  | 6 => v0
  | 7 => v1
  | k + 8 => base + k
theorem ls_0 : Cond.laysStatic "ChainHouse$Sha" "START" "[I" ∈ lw_tbl := hz_tm2 (List.mem_of_getElem? (i := 106) rfl)
theorem ls_1 : Cond.laysStatic "ChainHouse$Sha" "K" "[I" ∈ lw_tbl := hz_tm2 (List.mem_of_getElem? (i := 108) rfl)
theorem ls_2 : Cond.laysStatic "ChainHouse$Keys" "NO_STEPS" "[I" ∈ lw_tbl := hz_tm2 (List.mem_of_getElem? (i := 115) rfl)
theorem ls_3 : Cond.laysStatic "ChainHouse$Keys" "ALL_STEPS" "[I" ∈ lw_tbl := hz_tm2 (List.mem_of_getElem? (i := 117) rfl)
theorem ls_cs : Cond.laysStatic "java/lang/String" "COMPACT_STRINGS" "Z" ∈ lw_tbl := hz_tm5 (List.mem_of_getElem? (i := 228) rfl)
theorem sr_0 : Cond.stringRef "ChainHouseModel" 311 hz_tx0 ∈ lw_tbl := hz_tm5 (List.mem_of_getElem? (i := 215) rfl)
theorem sr_1 : Cond.stringRef "ChainHouseModel" 317 hz_tx1 ∈ lw_tbl := hz_tm6 (List.mem_of_getElem? (i := 19) rfl)
theorem ao_n : Cond.arrayOver (.object "ChainHouse$Node") ∈ lw_tbl := hz_tm2 (List.mem_of_getElem? (i := 78) rfl)
theorem gv_0 {b : Nat} {s : State} (hg : (Jvm.Cond.and given_1 narrow_1).before #[Value.ref b] s = true) (hts : ∀ w ∈ lw_tbl, w.before #[Value.ref b] s = true) {A : Nat → Prop} (hA : ∀ a : Nat, a < s.heap.size → ¬ A a) : ∃ t : Nat, va_Z "ChainHouse$Sha" "START" "[I" (.ref t) A s s.heap ∧ va_T .int t 8 (fun j => .int (hz_sf 0 j)) A s s.heap := by
  have hs := flat_of_before _ hg
  obtain ⟨t, ht, hT⟩ := va_Tof (tm := .static "ChainHouse$Sha" "START" "[I") (ty := .int) (N := 8) (f := fun j => .int (hz_sf 0 j)) (A := A) (by decide) (hs (Cond.arrayOf (.static "ChainHouse$Sha" "START" "[I") .int) (by decide +kernel)) (va_eqt (hs (Cond.eq (.length (.static "ChainHouse$Sha" "START" "[I")) (.int (Int32.ofNat 8))) (by decide +kernel))) (fun j hj => va_eqt (fam_use hs 7 8 (fun j => Cond.eq (.elem (.static "ChainHouse$Sha" "START" "[I") (.int (Int32.ofNat j))) (.int (hz_sf 0 j))) (by decide +kernel) j hj)) hA
  exact ⟨t, va_Zref (hts _ ls_0) (hts _ ini_X8) ht hA, hT⟩
theorem gv_1 {b : Nat} {s : State} (hg : (Jvm.Cond.and given_1 narrow_1).before #[Value.ref b] s = true) (hts : ∀ w ∈ lw_tbl, w.before #[Value.ref b] s = true) {A : Nat → Prop} (hA : ∀ a : Nat, a < s.heap.size → ¬ A a) : ∃ t : Nat, va_Z "ChainHouse$Sha" "K" "[I" (.ref t) A s s.heap ∧ va_T .int t 64 (fun j => .int (hz_sf 1 j)) A s s.heap := by
  have hs := flat_of_before _ hg
  obtain ⟨t, ht, hT⟩ := va_Tof (tm := .static "ChainHouse$Sha" "K" "[I") (ty := .int) (N := 64) (f := fun j => .int (hz_sf 1 j)) (A := A) (by decide) (hs (Cond.arrayOf (.static "ChainHouse$Sha" "K" "[I") .int) (by decide +kernel)) (va_eqt (hs (Cond.eq (.length (.static "ChainHouse$Sha" "K" "[I")) (.int (Int32.ofNat 64))) (by decide +kernel))) (fun j hj => va_eqt (fam_use hs 18 64 (fun j => Cond.eq (.elem (.static "ChainHouse$Sha" "K" "[I") (.int (Int32.ofNat j))) (.int (hz_sf 1 j))) (by decide +kernel) j hj)) hA
  exact ⟨t, va_Zref (hts _ ls_1) (hts _ ini_X8) ht hA, hT⟩
theorem gv_2 {b : Nat} {s : State} (hg : (Jvm.Cond.and given_1 narrow_1).before #[Value.ref b] s = true) (hts : ∀ w ∈ lw_tbl, w.before #[Value.ref b] s = true) {A : Nat → Prop} (hA : ∀ a : Nat, a < s.heap.size → ¬ A a) : ∃ t : Nat, va_Z "ChainHouse$Keys" "NO_STEPS" "[I" (.ref t) A s s.heap ∧ va_T .int t 8 (fun j => .int (hz_sf 2 j)) A s s.heap := by
  have hs := flat_of_before _ hg
  obtain ⟨t, ht, hT⟩ := va_Tof (tm := .static "ChainHouse$Keys" "NO_STEPS" "[I") (ty := .int) (N := 8) (f := fun j => .int (hz_sf 2 j)) (A := A) (by decide) (hs (Cond.arrayOf (.static "ChainHouse$Keys" "NO_STEPS" "[I") .int) (by decide +kernel)) (va_eqt (hs (Cond.eq (.length (.static "ChainHouse$Keys" "NO_STEPS" "[I")) (.int (Int32.ofNat 8))) (by decide +kernel))) (fun j hj => va_eqt (fam_use hs 85 8 (fun j => Cond.eq (.elem (.static "ChainHouse$Keys" "NO_STEPS" "[I") (.int (Int32.ofNat j))) (.int (hz_sf 2 j))) (by decide +kernel) j hj)) hA
  exact ⟨t, va_Zref (hts _ ls_2) (hts _ ini_X4) ht hA, hT⟩
theorem gv_3 {b : Nat} {s : State} (hg : (Jvm.Cond.and given_1 narrow_1).before #[Value.ref b] s = true) (hts : ∀ w ∈ lw_tbl, w.before #[Value.ref b] s = true) {A : Nat → Prop} (hA : ∀ a : Nat, a < s.heap.size → ¬ A a) : ∃ t : Nat, va_Z "ChainHouse$Keys" "ALL_STEPS" "[I" (.ref t) A s s.heap ∧ va_T .int t 8 (fun j => .int (hz_sf 3 j)) A s s.heap := by
  have hs := flat_of_before _ hg
  obtain ⟨t, ht, hT⟩ := va_Tof (tm := .static "ChainHouse$Keys" "ALL_STEPS" "[I") (ty := .int) (N := 8) (f := fun j => .int (hz_sf 3 j)) (A := A) (by decide) (hs (Cond.arrayOf (.static "ChainHouse$Keys" "ALL_STEPS" "[I") .int) (by decide +kernel)) (va_eqt (hs (Cond.eq (.length (.static "ChainHouse$Keys" "ALL_STEPS" "[I")) (.int (Int32.ofNat 8))) (by decide +kernel))) (fun j hj => va_eqt (fam_use hs 96 8 (fun j => Cond.eq (.elem (.static "ChainHouse$Keys" "ALL_STEPS" "[I") (.int (Int32.ofNat j))) (.int (hz_sf 3 j))) (by decide +kernel) j hj)) hA
  exact ⟨t, va_Zref (hts _ ls_3) (hts _ ini_X4) ht hA, hT⟩
def tmS (i : Nat) : Term := if i = 0 then .string "ChainHouseModel" 311 else .string "ChainHouseModel" 317
theorem gv_S {b : Nat} {s : State} (hg : (Jvm.Cond.and given_1 narrow_1).before #[Value.ref b] s = true) {A : Nat → Prop} (hA : ∀ a : Nat, a < s.heap.size → ¬ A a) : ∃ adK adV : Nat → Nat, vk_S 2 [64, 512] [hz_tb0, hz_tb1] adK adV A s s.heap ∧ ∀ i : Nat, i < 2 → (tmS i).eval #[Value.ref b] s none [] s = some (.ref (adK i)) := by
  have hs := flat_of_before _ hg
  refine vk_Sof (tm := tmS) (by decide) (fun i hi => by rcases (show i = 0 ∨ i = 1 by omega) with rfl | rfl; exact hs (Cond.exactly (.string "ChainHouseModel" 311) "java/lang/String") (by decide +kernel); exact hs (Cond.exactly (.string "ChainHouseModel" 317) "java/lang/String") (by decide +kernel)) (fun i hi => by rcases (show i = 0 ∨ i = 1 by omega) with rfl | rfl; exact hs (Cond.eq (.field (.string "ChainHouseModel" 311) "java/lang/String" "coder" "B") (.int 0)) (by decide +kernel); exact hs (Cond.eq (.field (.string "ChainHouseModel" 317) "java/lang/String" "coder" "B") (.int 0)) (by decide +kernel)) (fun i hi => by rcases (show i = 0 ∨ i = 1 by omega) with rfl | rfl; exact hs (Cond.arrayOf (.field (.string "ChainHouseModel" 311) "java/lang/String" "value" "[B") .byte) (by decide +kernel); exact hs (Cond.arrayOf (.field (.string "ChainHouseModel" 317) "java/lang/String" "value" "[B") .byte) (by decide +kernel)) (fun i hi => by rcases (show i = 0 ∨ i = 1 by omega) with rfl | rfl; exact hs (Cond.eq (.length (.field (.string "ChainHouseModel" 311) "java/lang/String" "value" "[B")) (.int (Int32.ofNat 64))) (by decide +kernel); exact hs (Cond.eq (.length (.field (.string "ChainHouseModel" 317) "java/lang/String" "value" "[B")) (.int (Int32.ofNat 512))) (by decide +kernel)) ?_ ?_ hA
  · intro i hi
    rcases (show i = 0 ∨ i = 1 by omega) with rfl | rfl
    · exact fam_use hs 113 64 (fun j => Cond.eq (.elem (.field (.string "ChainHouseModel" 311) "java/lang/String" "value" "[B") (.int (Int32.ofNat j))) (.int (hz_tb0.getD j 0))) (by decide +kernel)
    · exact fam_use hs 181 512 (fun j => Cond.eq (.elem (.field (.string "ChainHouseModel" 317) "java/lang/String" "value" "[B") (.int (Int32.ofNat j))) (.int (hz_tb1.getD j 0))) (by decide +kernel)
  · intro i j hi hj hne
    rcases (show (i = 0 ∧ j = 1) ∨ (i = 1 ∧ j = 0) by omega) with ⟨rfl, rfl⟩ | ⟨rfl, rfl⟩
    · exact Or.inl (hs (Cond.not (Cond.eq (.string "ChainHouseModel" 311) (.string "ChainHouseModel" 317))) (by decide +kernel))
    · exact Or.inr (hs (Cond.not (Cond.eq (.string "ChainHouseModel" 311) (.string "ChainHouseModel" 317))) (by decide +kernel))
set_option maxHeartbeats 4000000 in
set_option maxRecDepth 100000 in
/-- YOUR PART: from the entry, for every script of at most 385 ints, the law comes to its end with true -/
theorem whole_start {p : Program} {e : Env} {s : State} {m : MethodId} {below : List Frame} {meth : Method} {c : Code} (l : Launch) {b L : Nat} {xs : Nat → Int32} (hL : L ≤ 385) (C0 : lw_At p s m meth c b L xs) : W p l e room_1 s m #[Value.ref b] below meth c s.heap [] 0 0 (lw_Z below #[Value.ref b] s) (entryFrame m ([Value.ref b] : List Value).toArray 4) := by
  have hts := C0.2.2.2.2.2.1
  have hg := C0.2.2.2.2.2.2.2.2.2
  have hs := flat_of_before _ hg
  have hA : ∀ a : Nat, a < s.heap.size → ¬ (fun q : Nat => s.heap.size ≤ q) a := fun a ha h => absurd h (Nat.not_le.mpr ha)
  obtain ⟨t0, hZ0, hT0⟩ := gv_0 hg hts hA
  obtain ⟨t1, hZ1, hT1⟩ := gv_1 hg hts hA
  obtain ⟨t2, hZ2, hT2⟩ := gv_2 hg hts hA
  obtain ⟨t3, hZ3, hT3⟩ := gv_3 hg hts hA
  obtain ⟨adK, adV, hS, hev⟩ := gv_S hg hA
  obtain ⟨c1, i1, hK1⟩ := u_known (C := RX1) (T := TX1) (N := 8) (n := 8) hts inX1 (hts _ is_X1)
  obtain ⟨c2, i2, hK2⟩ := u_known (C := RX2) (T := TX2) (N := 7) (n := 7) hts inX2 (hts _ is_X2)
  obtain ⟨c3, i3, hK3⟩ := u_known (C := RX3) (T := TX3) (N := 11) (n := 11) hts inX3 (hts _ is_X3)
  obtain ⟨c4, i4, hK4⟩ := u_known (C := RX4) (T := TX4) (N := 7) (n := 7) hts inX4 (hts _ is_X4)
  obtain ⟨c5, i5, hK5⟩ := u_known (C := RX5) (T := TX5) (N := 13) (n := 13) hts inX5 (hts _ is_X5)
  obtain ⟨c6, i6, hK6⟩ := u_known (C := RX6) (T := TX6) (N := 14) (n := 14) hts inX6 (hts _ is_X6)
  obtain ⟨c7, i7, hK7⟩ := u_known (C := RX7) (T := TX7) (N := 3) (n := 3) hts inX7 (hts _ is_X7)
  obtain ⟨c8, i8, hK8⟩ := u_known (C := RX8) (T := TX8) (N := 3) (n := 3) hts inX8 (hts _ is_X8)
  obtain ⟨c9, i9, hK9⟩ := u_known (C := RX9) (T := TX9) (N := 5) (n := 5) hts inX9 (hts _ is_X9)
  obtain ⟨c10, i10, hK10⟩ := u_known (C := RX10) (T := TX10) (N := 12) (n := 12) hts inX10 (hts _ is_X10)
  obtain ⟨c11, i11, hK11⟩ := u_known (C := RX11) (T := TX11) (N := 13) (n := 13) hts inX11 (hts _ is_X11)
  obtain ⟨c12, i12, hK12⟩ := u_known (C := RX12) (T := TX12) (N := 106) (n := 106) hts inX12 (hts _ is_X12)
  obtain ⟨aI, kI, mI, fI1, fI2, fI3⟩ := Cond.arrayClass_spec (hts _ ar_I)
  obtain ⟨aB, kB, mB, fB1, fB2, fB3⟩ := Cond.arrayClass_spec (hts _ ar_B)
  obtain ⟨aJ, kJ, mJ, fJ1, fJ2, fJ3⟩ := Cond.arrayClass_spec (hts _ ar_J)
  obtain ⟨aZ, kZ, mZ, fZ1, fZ2, fZ3⟩ := Cond.arrayClass_spec (hts _ ar_Z)
  obtain ⟨comp, aN, kN, fN1, fN2, fN3, fN4, fN5⟩ := Cond.arrayOver_spec (hts _ ao_n)
  obtain ⟨κ, hκ⟩ : ∃ κ : hz_C, κ = (l, (fun c => match c with | 0 => c1 | 1 => c1 | 2 => c2 | 3 => c3 | 4 => c4 | 5 => c5 | 6 => c6 | 7 => c7 | 8 => c8 | 9 => c9 | 10 => c10 | 11 => c11 | _ => c12, fun c => match c with | 0 => i1 | 1 => i1 | 2 => i2 | 3 => i3 | 4 => i4 | 5 => i5 | 6 => i6 | 7 => i7 | 8 => i8 | 9 => i9 | 10 => i10 | 11 => i11 | _ => i12), (fun t => match t with | 0 => aI | 1 => aB | 2 => aJ | 3 => aZ | _ => aN), ad8 t0 t1 t2 t3 (adK 0) (adK 1) (adV 0) (adV 1) s.heap.size, s.heap.size) := ⟨_, rfl⟩
  have hKK : va_K κ.2.1 hz_kl (hz_tys κ) s := by
    subst hκ
    refine ⟨fun c q hq => ?_, fun k q hk => ?_⟩
    · have hc : c < 13 := (List.getElem?_eq_some_iff.mp hq).1
      rcases (show c = 0 ∨ c = 1 ∨ c = 2 ∨ c = 3 ∨ c = 4 ∨ c = 5 ∨ c = 6 ∨ c = 7 ∨ c = 8 ∨ c = 9 ∨ c = 10 ∨ c = 11 ∨ c = 12 by omega) with rfl | rfl | rfl | rfl | rfl | rfl | rfl | rfl | rfl | rfl | rfl | rfl | rfl
      · have e9 : some (RX1, TX1, 8) = some q := hq
        injection e9 with e9
        subst e9
        exact hK1
      · have e9 : some (RX1, TX1, 8) = some q := hq
        injection e9 with e9
        subst e9
        exact hK1
      · have e9 : some (RX2, TX2, 7) = some q := hq
        injection e9 with e9
        subst e9
        exact hK2
      · have e9 : some (RX3, TX3, 11) = some q := hq
        injection e9 with e9
        subst e9
        exact hK3
      · have e9 : some (RX4, TX4, 7) = some q := hq
        injection e9 with e9
        subst e9
        exact hK4
      · have e9 : some (RX5, TX5, 13) = some q := hq
        injection e9 with e9
        subst e9
        exact hK5
      · have e9 : some (RX6, TX6, 14) = some q := hq
        injection e9 with e9
        subst e9
        exact hK6
      · have e9 : some (RX7, TX7, 3) = some q := hq
        injection e9 with e9
        subst e9
        exact hK7
      · have e9 : some (RX8, TX8, 3) = some q := hq
        injection e9 with e9
        subst e9
        exact hK8
      · have e9 : some (RX9, TX9, 5) = some q := hq
        injection e9 with e9
        subst e9
        exact hK9
      · have e9 : some (RX10, TX10, 12) = some q := hq
        injection e9 with e9
        subst e9
        exact hK10
      · have e9 : some (RX11, TX11, 13) = some q := hq
        injection e9 with e9
        subst e9
        exact hK11
      · have e9 : some (RX12, TX12, 106) = some q := hq
        injection e9 with e9
        subst e9
        exact hK12
    · have hk5 : k < 5 := (List.getElem?_eq_some_iff.mp hk).1
      rcases (show k = 0 ∨ k = 1 ∨ k = 2 ∨ k = 3 ∨ k = 4 by omega) with rfl | rfl | rfl | rfl | rfl
      · have e9 : some (aI, FieldType.int) = some q := hk
        injection e9 with e9
        subst e9
        exact ⟨fun N z => ⟨(fun k h => by cases h), kI, fI2, mI, fI3⟩, fI1⟩
      · have e9 : some (aB, FieldType.byte) = some q := hk
        injection e9 with e9
        subst e9
        exact ⟨fun N z => ⟨(fun k h => by cases h), kB, fB2, mB, fB3⟩, fB1⟩
      · have e9 : some (aJ, FieldType.long) = some q := hk
        injection e9 with e9
        subst e9
        exact ⟨fun N z => ⟨(fun k h => by cases h), kJ, fJ2, mJ, fJ3⟩, fJ1⟩
      · have e9 : some (aZ, FieldType.boolean) = some q := hk
        injection e9 with e9
        subst e9
        exact ⟨fun N z => ⟨(fun k h => by cases h), kZ, fZ2, mZ, fZ3⟩, fZ1⟩
      · have e9 : some (aN, FieldType.object "ChainHouse$Node") = some q := hk
        injection e9 with e9
        subst e9
        exact ⟨fun N z => ⟨(fun k h => by cases h), kN, fN3, comp, fN4⟩, kN, comp, fN3, fN4, fN1, fN5⟩
  have hZZ : hz_Z κ s s.heap := by
    subst hκ
    refine ⟨fun k hk => ?_, hS.cg (fun i hi => ?_), vk_R.of (hts _ sr_0) (hev 0 (by decide)), vk_R.of (hts _ sr_1) (hev 1 (by decide)), va_Zof (hts _ ls_cs) (hts _ ini_J0) (va_eqi (hs (Cond.eq (.static "java/lang/String" "COMPACT_STRINGS" "Z") (.int 1)) (by decide +kernel))) hA, fun a i y h hm => va_Nw.of rfl (hts _ hm), va_AO.of (hts _ ao_n)⟩
    · rcases (show k = 0 ∨ k = 1 ∨ k = 2 ∨ k = 3 by omega) with rfl | rfl | rfl | rfl
      · exact ⟨hZ0, hT0⟩
      · exact ⟨hZ1, hT1⟩
      · exact ⟨hZ2, hT2⟩
      · exact ⟨hZ3, hT3⟩
    · rcases (show i = 0 ∨ i = 1 by omega) with rfl | rfl
      · exact ⟨rfl, rfl⟩
      · exact ⟨rfl, rfl⟩
  have ltT : ∀ {ty : FieldType} {t n : Nat} {f : Nat → Value}, va_T ty t n f (fun q : Nat => s.heap.size ≤ q) s s.heap → t < s.heap.size := fun h => by
    obtain ⟨cell, g1, -⟩ := h
    exact (Array.getElem?_eq_some_iff.mp g1).1
  have ltO : ∀ {C : String} {t : Nat}, va_O C t (fun q : Nat => s.heap.size ≤ q) s s.heap → t < s.heap.size := fun h => by
    obtain ⟨cell, g1, -⟩ := h
    exact (Array.getElem?_eq_some_iff.mp g1).1
  have hkw : hz_kw κ := by
    subst hκ
    refine ⟨fun k hk => ?_, fun k hk => ?_⟩
    · obtain ⟨j, rfl⟩ : ∃ j, k = j + 8 := ⟨k - 8, by omega⟩
      show s.heap.size + j = s.heap.size + (j + 8 - 8)
      rw [Nat.add_sub_cancel]
    · rcases (show k = 0 ∨ k = 1 ∨ k = 2 ∨ k = 3 ∨ k = 4 ∨ k = 5 ∨ k = 6 ∨ k = 7 by omega) with rfl | rfl | rfl | rfl | rfl | rfl | rfl | rfl
      · exact ltT hT0
      · exact ltT hT1
      · exact ltT hT2
      · exact ltT hT3
      · exact ltO (hS.1 0 (by decide)).1
      · exact ltO (hS.1 1 (by decide)).1
      · exact ltT (hS.1 0 (by decide)).2.2.2
      · exact ltT (hS.1 1 (by decide)).2.2.2
  have hbase : κ.2.2.2.2 = s.heap.size := by rw [hκ]
  have hl1 : κ.1 = l := by rw [hκ]
  have hwd : hz_wd κ (fun k => hz_st k) 8 s.heap := ⟨Nat.le_refl 8, by omega, fun k _ => rfl, fun k h1 h2 => absurd h2 (by omega)⟩
  have hl := lv_entry [Value.ref b] (n := 4) (Nat.le_of_ble_eq_true rfl)
  have q := lw_0 (κ := κ) (bb_ := b) (xs := xs) hL (fun k => hz_st k) p e s m below meth c s.heap [] _ ⟨C0, hkw, hKK, hZZ, hbase⟩ hwd va_S.rf hl
  rw [hl1] at q
  rw [lg_entry_eq]
  exact q
