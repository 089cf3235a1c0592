/-! the walk that also knows the static that checkIndex carries -/
def hq_Z (κ : hz_C) (s : State) : Prop := va_Zq "jdk/internal/util/Preconditions" "SIOOBE_FORMATTER" "Ljava/util/function/BiFunction;" (hz_A κ) s s.heap
def hq_W (κ : hz_C) (x : hz_X) (d mc ms : Nat) (P : hz_P) (cn sn pc : Nat) (lo : List (Nat × Value)) (st : List Value) (z : Nat) (M : hz_M) : Prop :=
  ∀ (p : Program) (e : Env) (s : State) (m : MethodId) (args : Array Value) (below : List Frame) (meth : Method) (c : Code) (H : Heap) (locs : List Loc) (ls : Array Slot),
    hz_fr κ x p s m args meth c → hq_Z κ s → hz_wd κ M z H → va_S (hz_A κ) s.heap H locs → lv_has ls x.2.2.1 (lo.map (fun q => (q.1, hz_rv κ q.2))) →
    W p κ.1 e (hz_rm d mc ms) s m args below meth c H locs cn sn (MQ below (hz_Q κ P) args s mc ms (hz_A κ)) (F0 m pc ls (st.map (hz_rv κ)))
def hq_Pc (κ : hz_C) (as : List Value) (z : Nat) (M : hz_M) : Array Value → State → Prop := fun v U => hz_Pc κ as z M v U ∧ hq_Z κ U
def hq_Mt (κ : hz_C) (x : hz_X) (d mc ms : Nat) (as : List Value) (z : Nat) (M : hz_M) (P : hz_P) : Prop :=
  Met κ.1 x.1 (hz_ws x) (hz_rm d mc ms) (hq_Pc κ as z M) (hz_Q κ P) mc ms (hz_A κ)
theorem hz_W.q {κ : hz_C} {x : hz_X} {d mc ms : Nat} {P : hz_P} {cn sn pc : Nat} {lo : List (Nat × Value)} {st : List Value} {z : Nat} {M : hz_M} (h : hz_W κ x d mc ms P cn sn pc lo st z M) : hq_W κ x d mc ms P cn sn pc lo st z M :=
  fun p e s m args below meth c H locs ls F _ hwd hS hl => h p e s m args below meth c H locs ls F hwd hS hl
theorem hq_ent {κ : hz_C} {x : hz_X} {d mc ms z : Nat} {as : List Value} {M : hz_M} {P : hz_P} {lo : List (Nat × Value)} (hy : plainName x.1.cls = true) (hn : (lg_sl as).length ≤ x.2.2.1) (hlo : lv_args 0 as = lo)
    (k : hq_W κ x d mc ms P 0 0 0 lo [] z M) : hq_Mt κ x d mc ms as z M P := by
  obtain ⟨y, cc, mL, rt⟩ := x
  refine Met.ofW (cc := cc) (maxL := mL) (ret := rt) (ws' := hz_T) hy rfl ?_
  intro p e s m args below meth c s₁ B hml hv
  obtain ⟨⟨rfl, hwd, hK, hZ, hkw⟩, hzq⟩ := hv
  have hts := atoms_spec (ws := hz_ws (y, cc, mL, rt)) B.pre
  have hl := lv_entry (as.map (hz_rv κ)) (n := mL) (by rw [hz_slen]; exact hn)
  rw [hz_args, hlo] at hl
  rw [lg_entry_eq]
  exact k p e s m _ below meth c s.heap [] _ ⟨B.exec, B.bytes, hml, findClass_of_methodNamed B.named, hts, B.returns, B.notSynchronized, (name_of_methodNamed B.named B.method).1, hkw, hK, hZ⟩ hzq hwd va_S.rf hl
theorem hq_blind (κ : hz_C) (as : List Value) (z : Nat) (M : hz_M) : FrameBlind (hq_Pc κ as z M) := by
  intro a U g mk h
  exact ⟨hz_blind κ as z M a U g mk h.1, va_Zq.moved (u := U) (U := U.calling g mk a) (Vm.Alike.refl U.vm) h.2⟩
theorem hq_pre {κ : hz_C} {x : hz_X} {z : Nat} {M : hz_M} {As : List Value} {p : Program} {s : State} {m : MethodId} {args : Array Value} {meth : Method} {c : Code} {H : Heap} {locs : List Loc} (F : hz_fr κ x p s m args meth c) (hzq : hq_Z κ s) (hwd : hz_wd κ M z H) (hS : va_S (hz_A κ) s.heap H locs) : ∀ U : State, U.heap = H → s.WarmedH U.vm → hq_Pc κ As z M (As.map (hz_rv κ)).toArray U := by
  intro U hU hW
  refine ⟨hz_pre F hwd hS U hU hW, ?_⟩
  show va_Zq "jdk/internal/util/Preconditions" "SIOOBE_FORMATTER" "Ljava/util/function/BiFunction;" (hz_A κ) U U.heap
  rw [hU]
  exact va_Zq.moved hW.alike (va_Zq.kept hzq hS.2.1)
section HQ07
variable {κ : hz_C} {x : hz_X} {d mc ms : Nat} {P : hz_P} {cn sn pc : Nat} {lo : List (Nat × Value)} {st : List Value} {z : Nat} {M : hz_M}
theorem hq_iadd {a b : Int32} (hd : decode x.2.1 pc = .ok (.iadd, 1)) (k : hq_W κ x d mc ms P cn sn (pc + 1) lo (.int (a + b) :: st) z M) : hq_W κ x d mc ms P cn sn (pc) lo (.int b :: .int a :: st) z M :=
  fun p e s m args below meth c H locs ls F hzq hwd hS hl => lv_iadd F.1 F.2.1 hd (k p e s m args below meth c H locs ls F hzq hwd hS hl)
theorem hq_isub {a b : Int32} (hd : decode x.2.1 pc = .ok (.isub, 1)) (k : hq_W κ x d mc ms P cn sn (pc + 1) lo (.int (a - b) :: st) z M) : hq_W κ x d mc ms P cn sn (pc) lo (.int b :: .int a :: st) z M :=
  fun p e s m args below meth c H locs ls F hzq hwd hS hl => lv_isub F.1 F.2.1 hd (k p e s m args below meth c H locs ls F hzq hwd hS hl)
theorem hq_imul {a b : Int32} (hd : decode x.2.1 pc = .ok (.imul, 1)) (k : hq_W κ x d mc ms P cn sn (pc + 1) lo (.int (a * b) :: st) z M) : hq_W κ x d mc ms P cn sn (pc) lo (.int b :: .int a :: st) z M :=
  fun p e s m args below meth c H locs ls F hzq hwd hS hl => lv_imul F.1 F.2.1 hd (k p e s m args below meth c H locs ls F hzq hwd hS hl)
theorem hq_iand {a b : Int32} (hd : decode x.2.1 pc = .ok (.iand, 1)) (k : hq_W κ x d mc ms P cn sn (pc + 1) lo (.int (a &&& b) :: st) z M) : hq_W κ x d mc ms P cn sn (pc) lo (.int b :: .int a :: st) z M :=
  fun p e s m args below meth c H locs ls F hzq hwd hS hl => lv_iand F.1 F.2.1 hd (k p e s m args below meth c H locs ls F hzq hwd hS hl)
theorem hq_ior {a b : Int32} (hd : decode x.2.1 pc = .ok (.ior, 1)) (k : hq_W κ x d mc ms P cn sn (pc + 1) lo (.int (a ||| b) :: st) z M) : hq_W κ x d mc ms P cn sn (pc) lo (.int b :: .int a :: st) z M :=
  fun p e s m args below meth c H locs ls F hzq hwd hS hl => lv_ior F.1 F.2.1 hd (k p e s m args below meth c H locs ls F hzq hwd hS hl)
theorem hq_ixor {a b : Int32} (hd : decode x.2.1 pc = .ok (.ixor, 1)) (k : hq_W κ x d mc ms P cn sn (pc + 1) lo (.int (a ^^^ b) :: st) z M) : hq_W κ x d mc ms P cn sn (pc) lo (.int b :: .int a :: st) z M :=
  fun p e s m args below meth c H locs ls F hzq hwd hS hl => lv_ixor F.1 F.2.1 hd (k p e s m args below meth c H locs ls F hzq hwd hS hl)
theorem hq_ladd {a b : Int64} (hd : decode x.2.1 pc = .ok (.ladd, 1)) (k : hq_W κ x d mc ms P cn sn (pc + 1) lo (.long (a + b) :: st) z M) : hq_W κ x d mc ms P cn sn (pc) lo (.long b :: .long a :: st) z M :=
  fun p e s m args below meth c H locs ls F hzq hwd hS hl => lv_ladd F.1 F.2.1 hd (k p e s m args below meth c H locs ls F hzq hwd hS hl)
theorem hq_lsub {a b : Int64} (hd : decode x.2.1 pc = .ok (.lsub, 1)) (k : hq_W κ x d mc ms P cn sn (pc + 1) lo (.long (a - b) :: st) z M) : hq_W κ x d mc ms P cn sn (pc) lo (.long b :: .long a :: st) z M :=
  fun p e s m args below meth c H locs ls F hzq hwd hS hl => lv_lsub F.1 F.2.1 hd (k p e s m args below meth c H locs ls F hzq hwd hS hl)
theorem hq_lmul {a b : Int64} (hd : decode x.2.1 pc = .ok (.lmul, 1)) (k : hq_W κ x d mc ms P cn sn (pc + 1) lo (.long (a * b) :: st) z M) : hq_W κ x d mc ms P cn sn (pc) lo (.long b :: .long a :: st) z M :=
  fun p e s m args below meth c H locs ls F hzq hwd hS hl => lv_lmul F.1 F.2.1 hd (k p e s m args below meth c H locs ls F hzq hwd hS hl)
theorem hq_land {a b : Int64} (hd : decode x.2.1 pc = .ok (.land, 1)) (k : hq_W κ x d mc ms P cn sn (pc + 1) lo (.long (a &&& b) :: st) z M) : hq_W κ x d mc ms P cn sn (pc) lo (.long b :: .long a :: st) z M :=
  fun p e s m args below meth c H locs ls F hzq hwd hS hl => lv_land F.1 F.2.1 hd (k p e s m args below meth c H locs ls F hzq hwd hS hl)
theorem hq_lor {a b : Int64} (hd : decode x.2.1 pc = .ok (.lor, 1)) (k : hq_W κ x d mc ms P cn sn (pc + 1) lo (.long (a ||| b) :: st) z M) : hq_W κ x d mc ms P cn sn (pc) lo (.long b :: .long a :: st) z M :=
  fun p e s m args below meth c H locs ls F hzq hwd hS hl => lv_lor F.1 F.2.1 hd (k p e s m args below meth c H locs ls F hzq hwd hS hl)
theorem hq_ishl {a b : Int32} (hd : decode x.2.1 pc = .ok (.ishl, 1)) (k : hq_W κ x d mc ms P cn sn (pc + 1) lo (.int (a <<< (b &&& 31)) :: st) z M) : hq_W κ x d mc ms P cn sn (pc) lo (.int b :: .int a :: st) z M :=
  fun p e s m args below meth c H locs ls F hzq hwd hS hl => lv_ishl F.1 F.2.1 hd (k p e s m args below meth c H locs ls F hzq hwd hS hl)
theorem hq_ishr {a b : Int32} (hd : decode x.2.1 pc = .ok (.ishr, 1)) (k : hq_W κ x d mc ms P cn sn (pc + 1) lo (.int (a >>> (b &&& 31)) :: st) z M) : hq_W κ x d mc ms P cn sn (pc) lo (.int b :: .int a :: st) z M :=
  fun p e s m args below meth c H locs ls F hzq hwd hS hl => lv_ishr F.1 F.2.1 hd (k p e s m args below meth c H locs ls F hzq hwd hS hl)
theorem hq_iushr {a b : Int32} (hd : decode x.2.1 pc = .ok (.iushr, 1)) (k : hq_W κ x d mc ms P cn sn (pc + 1) lo (.int (a.toUInt32 >>> (b.toUInt32 &&& Int32.toUInt32 31)).toInt32 :: st) z M) : hq_W κ x d mc ms P cn sn (pc) lo (.int b :: .int a :: st) z M :=
  fun p e s m args below meth c H locs ls F hzq hwd hS hl => lv_iushr F.1 F.2.1 hd rfl (k p e s m args below meth c H locs ls F hzq hwd hS hl)
theorem hq_lshl {a : Int64} {b : Int32} (hd : decode x.2.1 pc = .ok (.lshl, 1)) (k : hq_W κ x d mc ms P cn sn (pc + 1) lo (.long (a <<< (b.toInt64 &&& 63)) :: st) z M) : hq_W κ x d mc ms P cn sn (pc) lo (.int b :: .long a :: st) z M :=
  fun p e s m args below meth c H locs ls F hzq hwd hS hl => lv_lshl F.1 F.2.1 hd rfl (k p e s m args below meth c H locs ls F hzq hwd hS hl)
theorem hq_lshr {a : Int64} {b : Int32} (hd : decode x.2.1 pc = .ok (.lshr, 1)) (k : hq_W κ x d mc ms P cn sn (pc + 1) lo (.long (a >>> (b.toInt64 &&& 63)) :: st) z M) : hq_W κ x d mc ms P cn sn (pc) lo (.int b :: .long a :: st) z M :=
  fun p e s m args below meth c H locs ls F hzq hwd hS hl => lv_lshr F.1 F.2.1 hd rfl (k p e s m args below meth c H locs ls F hzq hwd hS hl)
theorem hq_lushr {a : Int64} {b : Int32} (hd : decode x.2.1 pc = .ok (.lushr, 1)) (k : hq_W κ x d mc ms P cn sn (pc + 1) lo (.long (a.toUInt64 >>> (b.toInt64.toUInt64 &&& Int64.toUInt64 63)).toInt64 :: st) z M) : hq_W κ x d mc ms P cn sn (pc) lo (.int b :: .long a :: st) z M :=
  fun p e s m args below meth c H locs ls F hzq hwd hS hl => lv_lushr F.1 F.2.1 hd rfl (k p e s m args below meth c H locs ls F hzq hwd hS hl)
theorem hq_i2l {a : Int32} (hd : decode x.2.1 pc = .ok (.i2l, 1)) (k : hq_W κ x d mc ms P cn sn (pc + 1) lo (.long a.toInt64 :: st) z M) : hq_W κ x d mc ms P cn sn (pc) lo (.int a :: st) z M :=
  fun p e s m args below meth c H locs ls F hzq hwd hS hl => lv_i2l F.1 F.2.1 hd rfl (k p e s m args below meth c H locs ls F hzq hwd hS hl)
theorem hq_l2i {a : Int64} (hd : decode x.2.1 pc = .ok (.l2i, 1)) (k : hq_W κ x d mc ms P cn sn (pc + 1) lo (.int a.toInt32 :: st) z M) : hq_W κ x d mc ms P cn sn (pc) lo (.long a :: st) z M :=
  fun p e s m args below meth c H locs ls F hzq hwd hS hl => lv_l2i F.1 F.2.1 hd rfl (k p e s m args below meth c H locs ls F hzq hwd hS hl)
theorem hq_i2b {a : Int32} (hd : decode x.2.1 pc = .ok (.i2b, 1)) (k : hq_W κ x d mc ms P cn sn (pc + 1) lo (.int a.toInt8.toInt32 :: st) z M) : hq_W κ x d mc ms P cn sn (pc) lo (.int a :: st) z M :=
  fun p e s m args below meth c H locs ls F hzq hwd hS hl => lv_i2b F.1 F.2.1 hd rfl (k p e s m args below meth c H locs ls F hzq hwd hS hl)
theorem hq_i2c {a : Int32} (hd : decode x.2.1 pc = .ok (.i2c, 1)) (k : hq_W κ x d mc ms P cn sn (pc + 1) lo (.int (a.toUInt32 % 65536).toInt32 :: st) z M) : hq_W κ x d mc ms P cn sn (pc) lo (.int a :: st) z M :=
  fun p e s m args below meth c H locs ls F hzq hwd hS hl => lv_i2c F.1 F.2.1 hd rfl (k p e s m args below meth c H locs ls F hzq hwd hS hl)
theorem hq_idiv {a b : Int32} (hd : decode x.2.1 pc = .ok (.idiv, 1)) (hne : ¬ b = 0) (k : hq_W κ x d mc ms P cn sn (pc + 1) lo (.int (a / b) :: st) z M) : hq_W κ x d mc ms P cn sn (pc) lo (.int b :: .int a :: st) z M :=
  fun p e s m args below meth c H locs ls F hzq hwd hS hl => lv_idiv F.1 F.2.1 hd hne (k p e s m args below meth c H locs ls F hzq hwd hS hl)
theorem hq_ldiv {a b : Int64} (hd : decode x.2.1 pc = .ok (.ldiv, 1)) (hne : ¬ b = 0) (k : hq_W κ x d mc ms P cn sn (pc + 1) lo (.long (a / b) :: st) z M) : hq_W κ x d mc ms P cn sn (pc) lo (.long b :: .long a :: st) z M :=
  fun p e s m args below meth c H locs ls F hzq hwd hS hl => lv_ldiv F.1 F.2.1 hd hne (k p e s m args below meth c H locs ls F hzq hwd hS hl)
theorem hq_irem {a b : Int32} (hd : decode x.2.1 pc = .ok (.irem, 1)) (hne : ¬ b = 0) (k : hq_W κ x d mc ms P cn sn (pc + 1) lo (.int (a - a / b * b) :: st) z M) : hq_W κ x d mc ms P cn sn (pc) lo (.int b :: .int a :: st) z M :=
  fun p e s m args below meth c H locs ls F hzq hwd hS hl => lv_irem F.1 F.2.1 hd hne (k p e s m args below meth c H locs ls F hzq hwd hS hl)
theorem hq_lrem {a b : Int64} (hd : decode x.2.1 pc = .ok (.lrem, 1)) (hne : ¬ b = 0) (k : hq_W κ x d mc ms P cn sn (pc + 1) lo (.long (a - a / b * b) :: st) z M) : hq_W κ x d mc ms P cn sn (pc) lo (.long b :: .long a :: st) z M :=
  fun p e s m args below meth c H locs ls F hzq hwd hS hl => lv_lrem F.1 F.2.1 hd hne (k p e s m args below meth c H locs ls F hzq hwd hS hl)
theorem hq_lcmp {a b : Int64} (hd : decode x.2.1 pc = .ok (.lcmp, 1)) (k : hq_W κ x d mc ms P cn sn (pc + 1) lo (.int (lg_cmp a b) :: st) z M) : hq_W κ x d mc ms P cn sn (pc) lo (.long b :: .long a :: st) z M :=
  fun p e s m args below meth c H locs ls F hzq hwd hS hl => W.lcmp F.1 F.2.1 hd (k p e s m args below meth c H locs ls F hzq hwd hS hl)
theorem hq_iconst {n : Int} {v : Int32} (hd : decode x.2.1 pc = .ok (.iconst n, 1)) (hv : Int32.ofInt n = v) (k : hq_W κ x d mc ms P cn sn (pc + 1) lo (.int v :: st) z M) : hq_W κ x d mc ms P cn sn (pc) lo (st) z M :=
  fun p e s m args below meth c H locs ls F hzq hwd hS hl => lv_iconst F.1 F.2.1 hd hv (k p e s m args below meth c H locs ls F hzq hwd hS hl)
theorem hq_bipush {n : Int} {v : Int32} (hd : decode x.2.1 pc = .ok (.bipush n, 2)) (hv : (Int8.ofInt n).toInt32 = v) (k : hq_W κ x d mc ms P cn sn (pc + 2) lo (.int v :: st) z M) : hq_W κ x d mc ms P cn sn (pc) lo (st) z M :=
  fun p e s m args below meth c H locs ls F hzq hwd hS hl => lv_bipush F.1 F.2.1 hd hv (k p e s m args below meth c H locs ls F hzq hwd hS hl)
theorem hq_sipush {n : Int} {v : Int32} (hd : decode x.2.1 pc = .ok (.sipush n, 3)) (hv : (Int16.ofInt n).toInt32 = v) (k : hq_W κ x d mc ms P cn sn (pc + 3) lo (.int v :: st) z M) : hq_W κ x d mc ms P cn sn (pc) lo (st) z M :=
  fun p e s m args below meth c H locs ls F hzq hwd hS hl => lv_sipush F.1 F.2.1 hd hv (k p e s m args below meth c H locs ls F hzq hwd hS hl)
theorem hq_lconst {n : Fin 2} {v : Int64} (hd : decode x.2.1 pc = .ok (.lconst n, 1)) (hv : Int64.ofNat (n : Nat) = v) (k : hq_W κ x d mc ms P cn sn (pc + 1) lo (.long v :: st) z M) : hq_W κ x d mc ms P cn sn (pc) lo (st) z M :=
  fun p e s m args below meth c H locs ls F hzq hwd hS hl => lv_lconst F.1 F.2.1 hd hv (k p e s m args below meth c H locs ls F hzq hwd hS hl)
theorem hq_null  (hd : decode x.2.1 pc = .ok (.aconst_null, 1)) (k : hq_W κ x d mc ms P cn sn (pc + 1) lo (.null :: st) z M) : hq_W κ x d mc ms P cn sn (pc) lo (st) z M :=
  fun p e s m args below meth c H locs ls F hzq hwd hS hl => lv_null F.1 F.2.1 hd (k p e s m args below meth c H locs ls F hzq hwd hS hl)
theorem hq_ldc {idx : Nat} {v : Int32} (hd : decode x.2.1 pc = .ok (.ldc idx, 2)) (hc : Cond.constant x.1.cls idx v ∈ lw_tbl) (k : hq_W κ x d mc ms P cn sn (pc + 2) lo (.int v :: st) z M) : hq_W κ x d mc ms P cn sn (pc) lo (st) z M :=
  fun p e s m args below meth c H locs ls F hzq hwd hS hl => lv_ldc F.1 F.2.1 F.2.2.2.1 (F.2.2.2.2.1 _ (List.mem_cons_of_mem _ (hz_inT hc rfl))) hd (k p e s m args below meth c H locs ls F hzq hwd hS hl)
theorem hq_ldcw {idx : Nat} {v : Int32} (hd : decode x.2.1 pc = .ok (.ldc_w idx, 3)) (hc : Cond.constant x.1.cls idx v ∈ lw_tbl) (k : hq_W κ x d mc ms P cn sn (pc + 3) lo (.int v :: st) z M) : hq_W κ x d mc ms P cn sn (pc) lo (st) z M :=
  fun p e s m args below meth c H locs ls F hzq hwd hS hl => lv_ldcw F.1 F.2.1 F.2.2.2.1 (F.2.2.2.2.1 _ (List.mem_cons_of_mem _ (hz_inT hc rfl))) hd (k p e s m args below meth c H locs ls F hzq hwd hS hl)
theorem hq_ldc2 {idx : Nat} {v : Int64} (hd : decode x.2.1 pc = .ok (.ldc2_w idx, 3)) (hc : Cond.constantLong x.1.cls idx v ∈ lw_tbl) (k : hq_W κ x d mc ms P cn sn (pc + 3) lo (.long v :: st) z M) : hq_W κ x d mc ms P cn sn (pc) lo (st) z M :=
  fun p e s m args below meth c H locs ls F hzq hwd hS hl => lv_ldc2 F.1 F.2.1 F.2.2.2.1 (F.2.2.2.2.1 _ (List.mem_cons_of_mem _ (hz_inT hc rfl))) hd (k p e s m args below meth c H locs ls F hzq hwd hS hl)
theorem hq_dup {v : Value} (hd : decode x.2.1 pc = .ok (.dup, 1)) (hv : v.category = 1) (k : hq_W κ x d mc ms P cn sn (pc + 1) lo (v :: v :: st) z M) : hq_W κ x d mc ms P cn sn (pc) lo (v :: st) z M :=
  fun p e s m args below meth c H locs ls F hzq hwd hS hl => lv_dup F.1 F.2.1 hd ((hz_cat κ v).trans hv) (k p e s m args below meth c H locs ls F hzq hwd hS hl)
theorem hq_pop {v : Value} (hd : decode x.2.1 pc = .ok (.pop, 1)) (hv : v.category = 1) (k : hq_W κ x d mc ms P cn sn (pc + 1) lo (st) z M) : hq_W κ x d mc ms P cn sn (pc) lo (v :: st) z M :=
  fun p e s m args below meth c H locs ls F hzq hwd hS hl => lv_pop F.1 F.2.1 hd ((hz_cat κ v).trans hv) (k p e s m args below meth c H locs ls F hzq hwd hS hl)
theorem hq_dup2 {v w : Value} (hd : decode x.2.1 pc = .ok (.dup2, 1)) (hv : v.category = 1) (hw : w.category = 1) (k : hq_W κ x d mc ms P cn sn (pc + 1) lo (v :: w :: v :: w :: st) z M) : hq_W κ x d mc ms P cn sn (pc) lo (v :: w :: st) z M :=
  fun p e s m args below meth c H locs ls F hzq hwd hS hl => lv_dup2_11 F.1 F.2.1 hd ((hz_cat κ v).trans hv) ((hz_cat κ w).trans hw) (k p e s m args below meth c H locs ls F hzq hwd hS hl)
theorem hq_dup2L {v : Value} (hd : decode x.2.1 pc = .ok (.dup2, 1)) (hv : v.category = 2) (k : hq_W κ x d mc ms P cn sn (pc + 1) lo (v :: v :: st) z M) : hq_W κ x d mc ms P cn sn (pc) lo (v :: st) z M :=
  fun p e s m args below meth c H locs ls F hzq hwd hS hl => lv_dup2_2 F.1 F.2.1 hd ((hz_cat κ v).trans hv) (k p e s m args below meth c H locs ls F hzq hwd hS hl)
theorem hq_topi {v : Int32} (k : ∀ y : Int32, y = v → hq_W κ x d mc ms P cn sn (pc) lo (.int y :: st) z M) : hq_W κ x d mc ms P cn sn (pc) lo (.int v :: st) z M := k v rfl
theorem hq_topl {v : Int64} (k : ∀ y : Int64, y = v → hq_W κ x d mc ms P cn sn (pc) lo (.long y :: st) z M) : hq_W κ x d mc ms P cn sn (pc) lo (.long v :: st) z M := k v rfl
theorem hq_eqi {v w : Int32} (h : v = w) (k : hq_W κ x d mc ms P cn sn (pc) lo (.int w :: st) z M) : hq_W κ x d mc ms P cn sn (pc) lo (.int v :: st) z M := h ▸ k
theorem hq_eql {v w : Int64} (h : v = w) (k : hq_W κ x d mc ms P cn sn (pc) lo (.long w :: st) z M) : hq_W κ x d mc ms P cn sn (pc) lo (.long v :: st) z M := h ▸ k
theorem hq_mem {M2 : hz_M} (h : M = M2) (k : hq_W κ x d mc ms P cn sn (pc) lo (st) z M2) : hq_W κ x d mc ms P cn sn (pc) lo (st) z M := h ▸ k
theorem hq_iload {i : Nat} {v : Int32} (j : Nat) (hd : decode x.2.1 pc = .ok (.iload i, 2)) (hj : lo[j]? = some (i, .int v)) (k : hq_W κ x d mc ms P cn sn (pc + 2) lo (.int v :: st) z M) : hq_W κ x d mc ms P cn sn (pc) lo (st) z M :=
  fun p e s m args below meth c H locs ls F hzq hwd hS hl => lv_iload F.1 F.2.1 hd (lv_at hl j (hz_lat hj)) (k p e s m args below meth c H locs ls F hzq hwd hS hl)
theorem hq_iloadn {i : Fin 4} {v : Int32} (j : Nat) (hd : decode x.2.1 pc = .ok (.iload_n i, 1)) (hj : lo[j]? = some ((i : Nat), .int v)) (k : hq_W κ x d mc ms P cn sn (pc + 1) lo (.int v :: st) z M) : hq_W κ x d mc ms P cn sn (pc) lo (st) z M :=
  fun p e s m args below meth c H locs ls F hzq hwd hS hl => lv_iload_n F.1 F.2.1 hd rfl (lv_at hl j (hz_lat hj)) (k p e s m args below meth c H locs ls F hzq hwd hS hl)
theorem hq_lload {i : Nat} {v : Int64} (j : Nat) (hd : decode x.2.1 pc = .ok (.lload i, 2)) (hj : lo[j]? = some (i, .long v)) (k : hq_W κ x d mc ms P cn sn (pc + 2) lo (.long v :: st) z M) : hq_W κ x d mc ms P cn sn (pc) lo (st) z M :=
  fun p e s m args below meth c H locs ls F hzq hwd hS hl => lv_lload F.1 F.2.1 hd (lv_at hl j (hz_lat hj)) (k p e s m args below meth c H locs ls F hzq hwd hS hl)
theorem hq_lloadn {i : Fin 4} {v : Int64} (j : Nat) (hd : decode x.2.1 pc = .ok (.lload_n i, 1)) (hj : lo[j]? = some ((i : Nat), .long v)) (k : hq_W κ x d mc ms P cn sn (pc + 1) lo (.long v :: st) z M) : hq_W κ x d mc ms P cn sn (pc) lo (st) z M :=
  fun p e s m args below meth c H locs ls F hzq hwd hS hl => lv_lload_n F.1 F.2.1 hd rfl (lv_at hl j (hz_lat hj)) (k p e s m args below meth c H locs ls F hzq hwd hS hl)
theorem hq_aload {i : Nat} {v : Nat} (j : Nat) (hd : decode x.2.1 pc = .ok (.aload i, 2)) (hj : lo[j]? = some (i, .ref v)) (k : hq_W κ x d mc ms P cn sn (pc + 2) lo (.ref v :: st) z M) : hq_W κ x d mc ms P cn sn (pc) lo (st) z M :=
  fun p e s m args below meth c H locs ls F hzq hwd hS hl => lv_aload F.1 F.2.1 hd (lv_at hl j (hz_lat hj)) (k p e s m args below meth c H locs ls F hzq hwd hS hl)
theorem hq_aloadn {i : Fin 4} {v : Nat} (j : Nat) (hd : decode x.2.1 pc = .ok (.aload_n i, 1)) (hj : lo[j]? = some ((i : Nat), .ref v)) (k : hq_W κ x d mc ms P cn sn (pc + 1) lo (.ref v :: st) z M) : hq_W κ x d mc ms P cn sn (pc) lo (st) z M :=
  fun p e s m args below meth c H locs ls F hzq hwd hS hl => lv_aload_n F.1 F.2.1 hd rfl (lv_at hl j (hz_lat hj)) (k p e s m args below meth c H locs ls F hzq hwd hS hl)
theorem hq_aloadN {i : Nat} (j : Nat) (hd : decode x.2.1 pc = .ok (.aload i, 2)) (hj : lo[j]? = some (i, .null)) (k : hq_W κ x d mc ms P cn sn (pc + 2) lo (.null :: st) z M) : hq_W κ x d mc ms P cn sn (pc) lo (st) z M :=
  fun p e s m args below meth c H locs ls F hzq hwd hS hl => lv_aloadN F.1 F.2.1 hd (lv_at hl j (hz_lat hj)) (k p e s m args below meth c H locs ls F hzq hwd hS hl)
theorem hq_aloadnN {i : Fin 4} (j : Nat) (hd : decode x.2.1 pc = .ok (.aload_n i, 1)) (hj : lo[j]? = some ((i : Nat), .null)) (k : hq_W κ x d mc ms P cn sn (pc + 1) lo (.null :: st) z M) : hq_W κ x d mc ms P cn sn (pc) lo (st) z M :=
  fun p e s m args below meth c H locs ls F hzq hwd hS hl => lv_aload_nN F.1 F.2.1 hd rfl (lv_at hl j (hz_lat hj)) (k p e s m args below meth c H locs ls F hzq hwd hS hl)
theorem hq_istore {i : Nat} {v : Int32} {lo2 : List (Nat × Value)} (hd : decode x.2.1 pc = .ok (.istore i, 2)) (hn : i < x.2.2.1) (hlo : (i, Value.int v) :: lo.filter (fun q => !(q.1 == i) && !(q.1 + 1 == i && q.2.category == 2)) = lo2) (k : hq_W κ x d mc ms P cn sn (pc + 2) lo2 (st) z M) : hq_W κ x d mc ms P cn sn (pc) lo (.int v :: st) z M := by
  intro p e s m args below meth c H locs ls F hzq hwd hS hl
  subst hlo
  refine lv_istore F.1 F.2.1 hd hl hn (lv' := ((i, Value.int v) :: lo.filter (fun q => !(q.1 == i) && !(q.1 + 1 == i && q.2.category == 2))).map (fun q => (q.1, hz_rv κ q.2))) ?_ (fun ls2 hl2 => k p e s m args below meth c H locs ls2 F hzq hwd hS hl2)
  rw [hz_fil1]; rfl
theorem hq_istoren {kk : Fin 4} {i : Nat} {v : Int32} {lo2 : List (Nat × Value)} (hd : decode x.2.1 pc = .ok (.istore_n kk, 1)) (hi : (kk : Nat) = i) (hn : i < x.2.2.1) (hlo : (i, Value.int v) :: lo.filter (fun q => !(q.1 == i) && !(q.1 + 1 == i && q.2.category == 2)) = lo2) (k : hq_W κ x d mc ms P cn sn (pc + 1) lo2 (st) z M) : hq_W κ x d mc ms P cn sn (pc) lo (.int v :: st) z M := by
  intro p e s m args below meth c H locs ls F hzq hwd hS hl
  subst hlo
  refine lv_istore_n F.1 F.2.1 hd hi hl hn (lv' := ((i, Value.int v) :: lo.filter (fun q => !(q.1 == i) && !(q.1 + 1 == i && q.2.category == 2))).map (fun q => (q.1, hz_rv κ q.2))) ?_ (fun ls2 hl2 => k p e s m args below meth c H locs ls2 F hzq hwd hS hl2)
  rw [hz_fil1]; rfl
theorem hq_lstore {i : Nat} {v : Int64} {lo2 : List (Nat × Value)} (hd : decode x.2.1 pc = .ok (.lstore i, 2)) (hn : i + 1 < x.2.2.1) (hlo : (i, Value.long v) :: lo.filter (fun q => !(q.1 == i) && (!(q.1 == i + 1) && !(q.1 + 1 == i && q.2.category == 2))) = lo2) (k : hq_W κ x d mc ms P cn sn (pc + 2) lo2 (st) z M) : hq_W κ x d mc ms P cn sn (pc) lo (.long v :: st) z M := by
  intro p e s m args below meth c H locs ls F hzq hwd hS hl
  subst hlo
  refine lv_lstore F.1 F.2.1 hd hl hn (lv' := ((i, Value.long v) :: lo.filter (fun q => !(q.1 == i) && (!(q.1 == i + 1) && !(q.1 + 1 == i && q.2.category == 2)))).map (fun q => (q.1, hz_rv κ q.2))) ?_ (fun ls2 hl2 => k p e s m args below meth c H locs ls2 F hzq hwd hS hl2)
  rw [hz_fil2]; rfl
theorem hq_lstoren {kk : Fin 4} {i : Nat} {v : Int64} {lo2 : List (Nat × Value)} (hd : decode x.2.1 pc = .ok (.lstore_n kk, 1)) (hi : (kk : Nat) = i) (hn : i + 1 < x.2.2.1) (hlo : (i, Value.long v) :: lo.filter (fun q => !(q.1 == i) && (!(q.1 == i + 1) && !(q.1 + 1 == i && q.2.category == 2))) = lo2) (k : hq_W κ x d mc ms P cn sn (pc + 1) lo2 (st) z M) : hq_W κ x d mc ms P cn sn (pc) lo (.long v :: st) z M := by
  intro p e s m args below meth c H locs ls F hzq hwd hS hl
  subst hlo
  refine lv_lstore_n F.1 F.2.1 hd hi hl hn (lv' := ((i, Value.long v) :: lo.filter (fun q => !(q.1 == i) && (!(q.1 == i + 1) && !(q.1 + 1 == i && q.2.category == 2)))).map (fun q => (q.1, hz_rv κ q.2))) ?_ (fun ls2 hl2 => k p e s m args below meth c H locs ls2 F hzq hwd hS hl2)
  rw [hz_fil2]; rfl
theorem hq_astore {i : Nat} {v : Nat} {lo2 : List (Nat × Value)} (hd : decode x.2.1 pc = .ok (.astore i, 2)) (hn : i < x.2.2.1) (hlo : (i, Value.ref v) :: lo.filter (fun q => !(q.1 == i) && !(q.1 + 1 == i && q.2.category == 2)) = lo2) (k : hq_W κ x d mc ms P cn sn (pc + 2) lo2 (st) z M) : hq_W κ x d mc ms P cn sn (pc) lo (.ref v :: st) z M := by
  intro p e s m args below meth c H locs ls F hzq hwd hS hl
  subst hlo
  refine lv_astore F.1 F.2.1 hd hl hn (lv' := ((i, Value.ref v) :: lo.filter (fun q => !(q.1 == i) && !(q.1 + 1 == i && q.2.category == 2))).map (fun q => (q.1, hz_rv κ q.2))) ?_ (fun ls2 hl2 => k p e s m args below meth c H locs ls2 F hzq hwd hS hl2)
  rw [hz_fil1]; rfl
theorem hq_astoren {kk : Fin 4} {i : Nat} {v : Nat} {lo2 : List (Nat × Value)} (hd : decode x.2.1 pc = .ok (.astore_n kk, 1)) (hi : (kk : Nat) = i) (hn : i < x.2.2.1) (hlo : (i, Value.ref v) :: lo.filter (fun q => !(q.1 == i) && !(q.1 + 1 == i && q.2.category == 2)) = lo2) (k : hq_W κ x d mc ms P cn sn (pc + 1) lo2 (st) z M) : hq_W κ x d mc ms P cn sn (pc) lo (.ref v :: st) z M := by
  intro p e s m args below meth c H locs ls F hzq hwd hS hl
  subst hlo
  refine lv_astore_n F.1 F.2.1 hd hi hl hn (lv' := ((i, Value.ref v) :: lo.filter (fun q => !(q.1 == i) && !(q.1 + 1 == i && q.2.category == 2))).map (fun q => (q.1, hz_rv κ q.2))) ?_ (fun ls2 hl2 => k p e s m args below meth c H locs ls2 F hzq hwd hS hl2)
  rw [hz_fil1]; rfl
theorem hq_iinc {i : Nat} {n : Int} {v w : Int32} {lo2 : List (Nat × Value)} (j : Nat) (hd : decode x.2.1 pc = .ok (.iinc i n, 3)) (hj : lo[j]? = some (i, .int v)) (hv : v + Int32.ofInt n = w) (hn : i < x.2.2.1) (hlo : (i, Value.int w) :: lo.filter (fun q => !(q.1 == i) && !(q.1 + 1 == i && q.2.category == 2)) = lo2) (k : hq_W κ x d mc ms P cn sn (pc + 3) lo2 (st) z M) : hq_W κ x d mc ms P cn sn (pc) lo (st) z M := by
  intro p e s m args below meth c H locs ls F hzq hwd hS hl
  subst hlo
  refine lv_iinc F.1 F.2.1 hd hl (hz_lat hj) hv hn (lv' := ((i, Value.int w) :: lo.filter (fun q => !(q.1 == i) && !(q.1 + 1 == i && q.2.category == 2))).map (fun q => (q.1, hz_rv κ q.2))) ?_ (fun ls2 hl2 => k p e s m args below meth c H locs ls2 F hzq hwd hS hl2)
  rw [hz_fil1]; rfl
theorem hq_pick {lo2 : List (Nat × Value)} (js : List Nat) (h : lv_pick lo js = lo2) (k : hq_W κ x d mc ms P cn sn (pc) lo2 (st) z M) : hq_W κ x d mc ms P cn sn (pc) lo (st) z M := by
  intro p e s m args below meth c H locs ls F hzq hwd hS hl
  refine k p e s m args below meth c H locs ls F hzq hwd hS (lv_sub hl js ?_)
  subst h
  simp only [lv_pick, List.getElem?_map, List.map_filterMap]
theorem hq_if_eq {a : Int32} {off : Int} {tgt : Nat} (hd : decode x.2.1 pc = .ok (.ifCond .eq off, 3)) (ht : (pc : Int) + off = (tgt : Int)) (kt : a = 0 → hq_W κ x d mc ms P cn sn (tgt) lo (st) z M) (kf : ¬ a = 0 → hq_W κ x d mc ms P cn sn (pc + 3) lo (st) z M) : hq_W κ x d mc ms P cn sn (pc) lo (.int a :: st) z M :=
  fun p e s m args below meth c H locs ls F hzq hwd hS hl => lv_if_eq F.1 F.2.1 hd ht (fun q => kt q p e s m args below meth c H locs ls F hzq hwd hS hl) (fun q => kf q p e s m args below meth c H locs ls F hzq hwd hS hl)
theorem hq_icmp_eq {a b : Int32} {off : Int} {tgt : Nat} (hd : decode x.2.1 pc = .ok (.if_icmp .eq off, 3)) (ht : (pc : Int) + off = (tgt : Int)) (kt : a = b → hq_W κ x d mc ms P cn sn (tgt) lo (st) z M) (kf : ¬ a = b → hq_W κ x d mc ms P cn sn (pc + 3) lo (st) z M) : hq_W κ x d mc ms P cn sn (pc) lo (.int b :: .int a :: st) z M :=
  fun p e s m args below meth c H locs ls F hzq hwd hS hl => lv_icmp_eq F.1 F.2.1 hd ht (fun q => kt q p e s m args below meth c H locs ls F hzq hwd hS hl) (fun q => kf q p e s m args below meth c H locs ls F hzq hwd hS hl)
theorem hq_if_ne {a : Int32} {off : Int} {tgt : Nat} (hd : decode x.2.1 pc = .ok (.ifCond .ne off, 3)) (ht : (pc : Int) + off = (tgt : Int)) (kt : ¬ a = 0 → hq_W κ x d mc ms P cn sn (tgt) lo (st) z M) (kf : a = 0 → hq_W κ x d mc ms P cn sn (pc + 3) lo (st) z M) : hq_W κ x d mc ms P cn sn (pc) lo (.int a :: st) z M :=
  fun p e s m args below meth c H locs ls F hzq hwd hS hl => lv_if_ne F.1 F.2.1 hd ht (fun q => kt q p e s m args below meth c H locs ls F hzq hwd hS hl) (fun q => kf q p e s m args below meth c H locs ls F hzq hwd hS hl)
theorem hq_icmp_ne {a b : Int32} {off : Int} {tgt : Nat} (hd : decode x.2.1 pc = .ok (.if_icmp .ne off, 3)) (ht : (pc : Int) + off = (tgt : Int)) (kt : ¬ a = b → hq_W κ x d mc ms P cn sn (tgt) lo (st) z M) (kf : a = b → hq_W κ x d mc ms P cn sn (pc + 3) lo (st) z M) : hq_W κ x d mc ms P cn sn (pc) lo (.int b :: .int a :: st) z M :=
  fun p e s m args below meth c H locs ls F hzq hwd hS hl => lv_icmp_ne F.1 F.2.1 hd ht (fun q => kt q p e s m args below meth c H locs ls F hzq hwd hS hl) (fun q => kf q p e s m args below meth c H locs ls F hzq hwd hS hl)
theorem hq_if_lt {a : Int32} {off : Int} {tgt : Nat} (hd : decode x.2.1 pc = .ok (.ifCond .lt off, 3)) (ht : (pc : Int) + off = (tgt : Int)) (kt : a < 0 → hq_W κ x d mc ms P cn sn (tgt) lo (st) z M) (kf : ¬ a < 0 → hq_W κ x d mc ms P cn sn (pc + 3) lo (st) z M) : hq_W κ x d mc ms P cn sn (pc) lo (.int a :: st) z M :=
  fun p e s m args below meth c H locs ls F hzq hwd hS hl => lv_if_lt F.1 F.2.1 hd ht (fun q => kt q p e s m args below meth c H locs ls F hzq hwd hS hl) (fun q => kf q p e s m args below meth c H locs ls F hzq hwd hS hl)
theorem hq_icmp_lt {a b : Int32} {off : Int} {tgt : Nat} (hd : decode x.2.1 pc = .ok (.if_icmp .lt off, 3)) (ht : (pc : Int) + off = (tgt : Int)) (kt : a < b → hq_W κ x d mc ms P cn sn (tgt) lo (st) z M) (kf : ¬ a < b → hq_W κ x d mc ms P cn sn (pc + 3) lo (st) z M) : hq_W κ x d mc ms P cn sn (pc) lo (.int b :: .int a :: st) z M :=
  fun p e s m args below meth c H locs ls F hzq hwd hS hl => lv_icmp_lt F.1 F.2.1 hd ht (fun q => kt q p e s m args below meth c H locs ls F hzq hwd hS hl) (fun q => kf q p e s m args below meth c H locs ls F hzq hwd hS hl)
theorem hq_if_ge {a : Int32} {off : Int} {tgt : Nat} (hd : decode x.2.1 pc = .ok (.ifCond .ge off, 3)) (ht : (pc : Int) + off = (tgt : Int)) (kt : 0 ≤ a → hq_W κ x d mc ms P cn sn (tgt) lo (st) z M) (kf : ¬ 0 ≤ a → hq_W κ x d mc ms P cn sn (pc + 3) lo (st) z M) : hq_W κ x d mc ms P cn sn (pc) lo (.int a :: st) z M :=
  fun p e s m args below meth c H locs ls F hzq hwd hS hl => lv_if_ge F.1 F.2.1 hd ht (fun q => kt q p e s m args below meth c H locs ls F hzq hwd hS hl) (fun q => kf q p e s m args below meth c H locs ls F hzq hwd hS hl)
theorem hq_icmp_ge {a b : Int32} {off : Int} {tgt : Nat} (hd : decode x.2.1 pc = .ok (.if_icmp .ge off, 3)) (ht : (pc : Int) + off = (tgt : Int)) (kt : b ≤ a → hq_W κ x d mc ms P cn sn (tgt) lo (st) z M) (kf : ¬ b ≤ a → hq_W κ x d mc ms P cn sn (pc + 3) lo (st) z M) : hq_W κ x d mc ms P cn sn (pc) lo (.int b :: .int a :: st) z M :=
  fun p e s m args below meth c H locs ls F hzq hwd hS hl => lv_icmp_ge F.1 F.2.1 hd ht (fun q => kt q p e s m args below meth c H locs ls F hzq hwd hS hl) (fun q => kf q p e s m args below meth c H locs ls F hzq hwd hS hl)
theorem hq_if_gt {a : Int32} {off : Int} {tgt : Nat} (hd : decode x.2.1 pc = .ok (.ifCond .gt off, 3)) (ht : (pc : Int) + off = (tgt : Int)) (kt : 0 < a → hq_W κ x d mc ms P cn sn (tgt) lo (st) z M) (kf : ¬ 0 < a → hq_W κ x d mc ms P cn sn (pc + 3) lo (st) z M) : hq_W κ x d mc ms P cn sn (pc) lo (.int a :: st) z M :=
  fun p e s m args below meth c H locs ls F hzq hwd hS hl => lv_if_gt F.1 F.2.1 hd ht (fun q => kt q p e s m args below meth c H locs ls F hzq hwd hS hl) (fun q => kf q p e s m args below meth c H locs ls F hzq hwd hS hl)
theorem hq_icmp_gt {a b : Int32} {off : Int} {tgt : Nat} (hd : decode x.2.1 pc = .ok (.if_icmp .gt off, 3)) (ht : (pc : Int) + off = (tgt : Int)) (kt : b < a → hq_W κ x d mc ms P cn sn (tgt) lo (st) z M) (kf : ¬ b < a → hq_W κ x d mc ms P cn sn (pc + 3) lo (st) z M) : hq_W κ x d mc ms P cn sn (pc) lo (.int b :: .int a :: st) z M :=
  fun p e s m args below meth c H locs ls F hzq hwd hS hl => lv_icmp_gt F.1 F.2.1 hd ht (fun q => kt q p e s m args below meth c H locs ls F hzq hwd hS hl) (fun q => kf q p e s m args below meth c H locs ls F hzq hwd hS hl)
theorem hq_if_le {a : Int32} {off : Int} {tgt : Nat} (hd : decode x.2.1 pc = .ok (.ifCond .le off, 3)) (ht : (pc : Int) + off = (tgt : Int)) (kt : a ≤ 0 → hq_W κ x d mc ms P cn sn (tgt) lo (st) z M) (kf : ¬ a ≤ 0 → hq_W κ x d mc ms P cn sn (pc + 3) lo (st) z M) : hq_W κ x d mc ms P cn sn (pc) lo (.int a :: st) z M :=
  fun p e s m args below meth c H locs ls F hzq hwd hS hl => lv_if_le F.1 F.2.1 hd ht (fun q => kt q p e s m args below meth c H locs ls F hzq hwd hS hl) (fun q => kf q p e s m args below meth c H locs ls F hzq hwd hS hl)
theorem hq_icmp_le {a b : Int32} {off : Int} {tgt : Nat} (hd : decode x.2.1 pc = .ok (.if_icmp .le off, 3)) (ht : (pc : Int) + off = (tgt : Int)) (kt : a ≤ b → hq_W κ x d mc ms P cn sn (tgt) lo (st) z M) (kf : ¬ a ≤ b → hq_W κ x d mc ms P cn sn (pc + 3) lo (st) z M) : hq_W κ x d mc ms P cn sn (pc) lo (.int b :: .int a :: st) z M :=
  fun p e s m args below meth c H locs ls F hzq hwd hS hl => lv_icmp_le F.1 F.2.1 hd ht (fun q => kt q p e s m args below meth c H locs ls F hzq hwd hS hl) (fun q => kf q p e s m args below meth c H locs ls F hzq hwd hS hl)
theorem hq_goto {off : Int} {tgt : Nat} (hd : decode x.2.1 pc = .ok (.goto off, 3)) (ht : (pc : Int) + off = (tgt : Int)) (k : hq_W κ x d mc ms P cn sn (tgt) lo (st) z M) : hq_W κ x d mc ms P cn sn (pc) lo (st) z M :=
  fun p e s m args below meth c H locs ls F hzq hwd hS hl => lv_goto F.1 F.2.1 hd ht (k p e s m args below meth c H locs ls F hzq hwd hS hl)
theorem hq_ifnull {a : Nat} {off : Int} (hd : decode x.2.1 pc = .ok (.ifnull off, 3)) (k : hq_W κ x d mc ms P cn sn (pc + 3) lo (st) z M) : hq_W κ x d mc ms P cn sn (pc) lo (.ref a :: st) z M :=
  fun p e s m args below meth c H locs ls F hzq hwd hS hl => lv_ifnull F.1 F.2.1 hd (k p e s m args below meth c H locs ls F hzq hwd hS hl)
theorem hq_ifnullN {off : Int} {tgt : Nat} (hd : decode x.2.1 pc = .ok (.ifnull off, 3)) (ht : (pc : Int) + off = (tgt : Int)) (k : hq_W κ x d mc ms P cn sn (tgt) lo (st) z M) : hq_W κ x d mc ms P cn sn (pc) lo (.null :: st) z M :=
  fun p e s m args below meth c H locs ls F hzq hwd hS hl => lv_ifnullN F.1 F.2.1 hd ht (k p e s m args below meth c H locs ls F hzq hwd hS hl)
theorem hq_ifnonnull {a : Nat} {off : Int} {tgt : Nat} (hd : decode x.2.1 pc = .ok (.ifnonnull off, 3)) (ht : (pc : Int) + off = (tgt : Int)) (k : hq_W κ x d mc ms P cn sn (tgt) lo (st) z M) : hq_W κ x d mc ms P cn sn (pc) lo (.ref a :: st) z M :=
  fun p e s m args below meth c H locs ls F hzq hwd hS hl => lv_ifnonnull F.1 F.2.1 hd ht (k p e s m args below meth c H locs ls F hzq hwd hS hl)
theorem hq_ifnonnullN {off : Int} (hd : decode x.2.1 pc = .ok (.ifnonnull off, 3)) (k : hq_W κ x d mc ms P cn sn (pc + 3) lo (st) z M) : hq_W κ x d mc ms P cn sn (pc) lo (.null :: st) z M :=
  fun p e s m args below meth c H locs ls F hzq hwd hS hl => lv_ifnonnullN F.1 F.2.1 hd (k p e s m args below meth c H locs ls F hzq hwd hS hl)
theorem hq_swIn {dflt lo0 hi0 : Int} {offs : Array Int} {len : Nat} {a : Int32} {off : Int} {tgt : Nat} (hd : decode x.2.1 pc = .ok (.tableswitch dflt lo0 hi0 offs, len)) (h1 : ¬ a.toInt < lo0) (h2 : ¬ hi0 < a.toInt) (ho : offs[(a.toInt - lo0).toNat]? = some off) (ht : (pc : Int) + off = (tgt : Int)) (k : hq_W κ x d mc ms P cn sn (tgt) lo (st) z M) : hq_W κ x d mc ms P cn sn (pc) lo (.int a :: st) z M :=
  fun p e s m args below meth c H locs ls F hzq hwd hS hl => lv_tableIn F.1 F.2.1 hd h1 h2 ho ht (k p e s m args below meth c H locs ls F hzq hwd hS hl)
theorem hq_swOut {dflt lo0 hi0 : Int} {offs : Array Int} {len : Nat} {a : Int32} {tgt : Nat} (hd : decode x.2.1 pc = .ok (.tableswitch dflt lo0 hi0 offs, len)) (h : a.toInt < lo0 ∨ hi0 < a.toInt) (ht : (pc : Int) + dflt = (tgt : Int)) (k : hq_W κ x d mc ms P cn sn (tgt) lo (st) z M) : hq_W κ x d mc ms P cn sn (pc) lo (.int a :: st) z M :=
  fun p e s m args below meth c H locs ls F hzq hwd hS hl => lv_tableOut F.1 F.2.1 hd h ht (k p e s m args below meth c H locs ls F hzq hwd hS hl)
theorem hq_iret {v : Int32} (hd : decode x.2.1 pc = .ok (.ireturn, 1)) (hr : x.2.2.2 = some .int) (hp : P (some (.int v)) z M) : hq_W κ x d mc ms P mc ms pc lo ([.int v]) z M :=
  fun p e s m args below meth c H locs ls F hzq hwd hS hl => W.iret F.1 F.2.1 (F.2.2.2.2.2.1.trans hr) (fun t ht hW => ⟨⟨some (.int v), z, M, rfl, hp, by rw [ht]; exact hwd⟩, hS.F ht⟩) hS.2.2 hd F.2.2.2.2.2.2.1
theorem hq_zret {v : Int32} {ty : FieldType} (hd : decode x.2.1 pc = .ok (.ireturn, 1)) (hr : x.2.2.2 = some ty) (hn : narrow ty (.int v) = .int v) (hp : P (some (.int v)) z M) : hq_W κ x d mc ms P mc ms pc lo ([.int v]) z M :=
  fun p e s m args below meth c H locs ls F hzq hwd hS hl => W.zret F.1 F.2.1 (F.2.2.2.2.2.1.trans hr) hn (fun t ht hW => ⟨⟨some (.int v), z, M, rfl, hp, by rw [ht]; exact hwd⟩, hS.F ht⟩) hS.2.2 hd F.2.2.2.2.2.2.1
theorem hq_lret {v : Int64} (hd : decode x.2.1 pc = .ok (.lreturn, 1)) (hr : x.2.2.2 = some .long) (hp : P (some (.long v)) z M) : hq_W κ x d mc ms P mc ms pc lo ([.long v]) z M :=
  fun p e s m args below meth c H locs ls F hzq hwd hS hl => W.lret F.1 F.2.1 (F.2.2.2.2.2.1.trans hr) (fun t ht hW => ⟨⟨some (.long v), z, M, rfl, hp, by rw [ht]; exact hwd⟩, hS.F ht⟩) hS.2.2 hd F.2.2.2.2.2.2.1
theorem hq_vret (hd : decode x.2.1 pc = .ok (.return_, 1)) (hr : x.2.2.2 = none) (hp : P none z M) : hq_W κ x d mc ms P mc ms pc lo ([]) z M :=
  fun p e s m args below meth c H locs ls F hzq hwd hS hl => W.vret F.1 F.2.1 (F.2.2.2.2.2.1.trans hr) (fun t ht hW => ⟨⟨none, z, M, rfl, hp, by rw [ht]; exact hwd⟩, hS.F ht⟩) hS.2.2 hd F.2.2.2.2.2.2.1
theorem hq_aret {v : Value} {C : String} (hd : decode x.2.1 pc = .ok (.areturn, 1)) (hr : x.2.2.2 = some (.object C)) (hv : v = .null ∨ ∃ a, v = .ref a) (hp : P (some v) z M) : hq_W κ x d mc ms P mc ms pc lo ([v]) z M :=
  fun p e s m args below meth c H locs ls F hzq hwd hS hl => W.aret F.1 F.2.1 (F.2.2.2.2.2.1.trans hr) (Or.inl ⟨C, rfl⟩) (by rcases hv with rfl | ⟨a, rfl⟩; exact Or.inl rfl; exact Or.inr ⟨_, rfl⟩) (fun t ht hW => ⟨⟨some v, z, M, rfl, hp, by rw [ht]; exact hwd⟩, hS.F ht⟩) hS.2.2 hd F.2.2.2.2.2.2.1
end HQ07
section HQ08
variable {κ : hz_C} {x : hz_X} {d mc ms : Nat} {P : hz_P} {cn sn pc : Nat} {lo : List (Nat × Value)} {st : List Value} {z : Nat} {M : hz_M}
theorem hq_get {a ci k idx : Nat} {fs : List Value} {v : Value} (hd : decode x.2.1 pc = .ok (.getfield idx, 3)) (hf : hz_fo x.1.cls idx ci k) (hM : M a = .inr (ci, fs)) (ha : 8 ≤ a) (hz : a < z) (hv : fs[k]? = some v) (kk : hq_W κ x d mc ms P cn sn (pc + 3) lo (v :: st) z M) : hq_W κ x d mc ms P cn sn pc lo (.ref a :: st) z M := by
  intro p e s m args below meth c H locs ls F hzq hwd hS hl
  obtain ⟨C, T, N, ty0, hc, hk, hlink, hin, -, -⟩ := hf
  have hat := (hwd.2.2.2 a ha hz).1
  rw [hM] at hat
  refine va_get (ci := ci) (C := C) (T := T) (N := N) (ws := [(κ.2.2.2.1 a, hz_re κ (.inr (ci, fs)))]) (fs := fs.map (hz_rv κ)) (v := hz_rv κ v) F.1 F.2.1 F.2.2.2.2.1 (fun w hw => List.mem_cons_of_mem _ (hz_inU hin w hw)) F.2.2.2.1 F.2.2.2.2.2.2.2.2.2.1 (fun j q hj => ?_) 0 rfl hc k hk (F.2.2.2.2.1 _ (List.mem_cons_of_mem _ (hz_inT hlink rfl))) (fun _ h9 => h9) (by rw [List.getElem?_map, hv]; rfl) hd (kk p e s m args below meth c H locs ls F hzq hwd hS hl)
  have hj0 : j < 1 := (List.getElem?_eq_some_iff.mp hj).1
  rw [show j = 0 by omega] at hj
  cases hj
  exact hat
theorem hq_put0 {a ci k idx : Nat} {fs : List Value} {v : Value} {ty : FieldType} (hd : decode x.2.1 pc = .ok (.putfield idx, 3)) (hf : hz_fo x.1.cls idx ci k) (hf1 : hz_fo1 ci k ty false) (hM : M a = .inr (ci, fs)) (ha : 8 ≤ a) (hz : a < z) (hn : narrow ty (hz_rv κ v) = hz_rv κ v) (hfit : fits ty (hz_rv κ v) = true) (hlen : k < fs.length) (kk : hq_W κ x d mc ms P cn sn (pc + 3) lo st z (va_up M a (.inr (ci, fs.set k v)))) : hq_W κ x d mc ms P cn sn pc lo (v :: .ref a :: st) z M := by
  intro p e s m args below meth c H locs ls F hzq hwd hS hl
  obtain ⟨C, T, N, ty0, hc, hk, hlink, hin, hty, hnm⟩ := hf
  obtain ⟨C1, T1, N1, hc1, hfin, hd1, -⟩ := hf1
  cases hc.symm.trans hc1
  have hat := (hwd.2.2.2 a ha hz).1
  rw [hM] at hat
  obtain ⟨r, h1, cell, q1, q2, q3, q4⟩ := hat
  have hr : r = (C, T, N) := Option.some.inj (h1.symm.trans hc)
  subst hr
  have hts : ∀ w ∈ hz_ws x, w.before args s = true := F.2.2.2.2.1
  have hin' : ∀ w ∈ u_ws C T N, w ∈ hz_ws x := fun w hw => List.mem_cons_of_mem _ (hz_inU hin w hw)
  have hK := F.2.2.2.2.2.2.2.2.2.1
  have hw := F.2.2.2.2.2.2.2.2.1
  have hap := va_apart (own := x.1.cls) hts hin' ty0 hty hnm hK hc
  obtain ⟨hSl, hfc, kC, hkC, hkind⟩ := hK.1 ci _ hc
  obtain ⟨cf, kf, fi, f, hi, hsl⟩ := hSl k hk
  have hlay := hts _ (hin' _ (u_in_lay hk))
  unfold u_lay at hlay
  rw [if_neg (by rw [hfin]; decide)] at hlay
  have hst := (u_facts hfc hkC (u_lays hts hin' hk) hi).1
  have h6 := u_store hfc hkC hkind hlay hi hd1 hn hfit
  refine W.putK F.1 F.2.1 (f := f) ⟨F.2.2.2.1, hts _ (List.mem_cons_of_mem _ (hz_inT hlink rfl)), ⟨_, _, _, hi⟩, hst⟩ (by rw [q2]; exact h6) q1 q3 (by rw [hsl]; exact k2_hasslot (q4 k hk)) rfl rfl hd fun H' e1 e2 e3 => ?_
  rw [hsl] at e1 ⊢
  refine kk p e s m args below meth c H' _ ls F hzq (hwd.put hw ha hz ?_ trivial e2 e3) (hS.put e2 e3 (hz_adA hw ha)) hl
  refine ⟨_, hc, t_OB.to (V := updV (vp_V (fs.map (hz_rv κ))) k (hz_rv κ v)) ⟨_, e1, q2, q3, t_set q4 hap hk (hz_rv κ v)⟩ (fun j _ => ?_)⟩
  show _ = vp_V ((fs.set k v).map (hz_rv κ)) j
  rw [List.map_set]
  exact vp_updV_set (by rw [List.length_map]; exact hlen) (hz_rv κ v) j
theorem hq_puti {a ci k idx : Nat} {fs : List Value} {v : Int32} (hd : decode x.2.1 pc = .ok (.putfield idx, 3)) (hf : hz_fo x.1.cls idx ci k) (hf1 : hz_fo1 ci k .int false) (hM : M a = .inr (ci, fs)) (ha : 8 ≤ a) (hz : a < z) (hlen : k < fs.length) (kk : hq_W κ x d mc ms P cn sn (pc + 3) lo st z (va_up M a (.inr (ci, fs.set k (.int v))))) : hq_W κ x d mc ms P cn sn pc lo (.int v :: .ref a :: st) z M :=
  hq_put0 hd hf hf1 hM ha hz rfl rfl hlen kk
theorem hq_putl {a ci k idx : Nat} {fs : List Value} {v : Int64} (hd : decode x.2.1 pc = .ok (.putfield idx, 3)) (hf : hz_fo x.1.cls idx ci k) (hf1 : hz_fo1 ci k .long false) (hM : M a = .inr (ci, fs)) (ha : 8 ≤ a) (hz : a < z) (hlen : k < fs.length) (kk : hq_W κ x d mc ms P cn sn (pc + 3) lo st z (va_up M a (.inr (ci, fs.set k (.long v))))) : hq_W κ x d mc ms P cn sn pc lo (.long v :: .ref a :: st) z M :=
  hq_put0 hd hf hf1 hM ha hz rfl rfl hlen kk
theorem hq_putz {a ci k idx : Nat} {fs : List Value} {v : Int32} (hd : decode x.2.1 pc = .ok (.putfield idx, 3)) (hf : hz_fo x.1.cls idx ci k) (hf1 : hz_fo1 ci k .boolean false) (hM : M a = .inr (ci, fs)) (ha : 8 ≤ a) (hz : a < z) (hlen : k < fs.length) (hv : narrow .boolean (.int v) = .int v) (hfit : fits .boolean (.int v) = true) (kk : hq_W κ x d mc ms P cn sn (pc + 3) lo st z (va_up M a (.inr (ci, fs.set k (.int v))))) : hq_W κ x d mc ms P cn sn pc lo (.int v :: .ref a :: st) z M :=
  hq_put0 hd hf hf1 hM ha hz hv hfit hlen kk
theorem hq_gets {idx k : Nat} (hd : decode x.2.1 pc = .ok (.getstatic idx, 3)) (hk : k < 4) (hlink : Cond.fieldLink x.1.cls idx (hz_zc k).1 (hz_zc k).2 "[I" ∈ lw_tbl) (kk : hq_W κ x d mc ms P cn sn (pc + 3) lo (.ref k :: st) z M) : hq_W κ x d mc ms P cn sn pc lo st z M := by
  intro p e s m args below meth c H locs ls F hzq hwd hS hl
  exact va_gets F.1 F.2.1 (F.2.2.2.2.2.2.2.2.2.2.1 k hk).1 hS F.2.2.2.1 (F.2.2.2.2.1 _ (List.mem_cons_of_mem _ (hz_inT hlink rfl))) (fun _ h9 => h9) hd (kk p e s m args below meth c H locs ls F hzq hwd hS hl)
theorem hq_ialdS {a j n : Nat} {f : Nat → Int32} {i : Int32} (hd : decode x.2.1 pc = .ok (.iaload, 1)) (hM : M a = .inl (0, n, .inl f)) (ha : a < 4) (hi : i = nI j) (hj : j < n) (hn : n < 2 ^ 31) (kk : hq_W κ x d mc ms P cn sn (pc + 1) lo (.int (f j) :: st) z M) : hq_W κ x d mc ms P cn sn pc lo (.int i :: .ref a :: st) z M := by
  intro p e s m args below meth c H locs ls F hzq hwd hS hl
  have hs := hwd.2.2.1 a ha
  rw [hM] at hs
  obtain ⟨h1, h2⟩ := hz_vin hi hj hn
  have hn2 : n = hz_sn a := by unfold hz_st at hs; injection hs with hs; injection hs with _ hs; injection hs with hs _
  have hf2 : f = hz_sf a := by unfold hz_st at hs; injection hs with hs; injection hs with _ hs; injection hs with _ hs; injection hs with hs
  subst hn2; subst hf2
  exact va_ti (v := .int (hz_sf a j)) F.1 F.2.1 (F.2.2.2.2.2.2.2.2.2.2.1 a ha).2 hS h1 (by rw [h2]) hd (kk p e s m args below meth c H locs ls F hzq hwd hS hl)
theorem hq_alenS {a n : Nat} {f : Nat → Int32} (hd : decode x.2.1 pc = .ok (.arraylength, 1)) (hM : M a = .inl (0, n, .inl f)) (ha : a < 4) (kk : hq_W κ x d mc ms P cn sn (pc + 1) lo (.int (nI n) :: st) z M) : hq_W κ x d mc ms P cn sn pc lo (.ref a :: st) z M := by
  intro p e s m args below meth c H locs ls F hzq hwd hS hl
  have hs := hwd.2.2.1 a ha
  rw [hM] at hs
  have hn2 : n = hz_sn a := by unfold hz_st at hs; injection hs with hs; injection hs with _ hs; injection hs with hs _
  subst hn2
  exact va_tlen F.1 F.2.1 (F.2.2.2.2.2.2.2.2.2.2.1 a ha).2 hS rfl hd (kk p e s m args below meth c H locs ls F hzq hwd hS hl)
theorem hq_alen {a t n : Nat} {g : (Nat → Int32) ⊕ (Nat → Int64) ⊕ (Nat → UInt32) ⊕ (Nat → UInt64) ⊕ (Nat → Option Nat)} (hd : decode x.2.1 pc = .ok (.arraylength, 1)) (hM : M a = .inl (t, n, g)) (ht : t < 5) (ha : 8 ≤ a) (hz : a < z) (kk : hq_W κ x d mc ms P cn sn (pc + 1) lo (.int (nI n) :: st) z M) : hq_W κ x d mc ms P cn sn pc lo (.ref a :: st) z M := by
  intro p e s m args below meth c H locs ls F hzq hwd hS hl
  have hP := hz_one hwd hM ha hz
  have hK := F.2.2.2.2.2.2.2.2.2.1
  have hty : ∃ ty, (hz_tys κ)[t]? = some (κ.2.2.1 t, ty) := by
    rcases (show t = 0 ∨ t = 1 ∨ t = 2 ∨ t = 3 ∨ t = 4 by omega) with rfl | rfl | rfl | rfl | rfl <;> exact ⟨_, rfl⟩
  obtain ⟨ty, hty⟩ := hty
  have kk2 := kk p e s m args below meth c H locs ls F hzq hwd hS hl
  rcases g with g | g | g | g | g <;> exact va_alen F.1 F.2.1 hK hP 0 t rfl hty rfl hd kk2
theorem hq_iald {a j n : Nat} {f : Nat → Int32} {i : Int32} (hd : decode x.2.1 pc = .ok (.iaload, 1)) (hM : M a = .inl (0, n, .inl f)) (ha : 8 ≤ a) (hz : a < z) (hi : i = nI j) (hj : j < n) (hn : n < 2 ^ 31) (kk : hq_W κ x d mc ms P cn sn (pc + 1) lo (.int (f j) :: st) z M) : hq_W κ x d mc ms P cn sn pc lo (.int i :: .ref a :: st) z M := by
  intro p e s m args below meth c H locs ls F hzq hwd hS hl
  obtain ⟨h1, h2⟩ := hz_vin hi hj hn
  refine va_iald F.1 F.2.1 F.2.2.2.2.2.2.2.2.2.1 (hz_one hwd hM ha hz) 0 0 rfl rfl h1 hd ?_
  rw [h2]
  exact kk p e s m args below meth c H locs ls F hzq hwd hS hl
theorem hq_bald {a j n : Nat} {f : Nat → Int32} {i : Int32} (hd : decode x.2.1 pc = .ok (.baload, 1)) (hM : M a = .inl (1, n, .inl f)) (ha : 8 ≤ a) (hz : a < z) (hi : i = nI j) (hj : j < n) (hn : n < 2 ^ 31) (kk : hq_W κ x d mc ms P cn sn (pc + 1) lo (.int (f j) :: st) z M) : hq_W κ x d mc ms P cn sn pc lo (.int i :: .ref a :: st) z M := by
  intro p e s m args below meth c H locs ls F hzq hwd hS hl
  obtain ⟨h1, h2⟩ := hz_vin hi hj hn
  refine va_bald F.1 F.2.1 F.2.2.2.2.2.2.2.2.2.1 (hz_one hwd hM ha hz) 0 1 rfl rfl h1 hd ?_
  rw [h2]
  exact kk p e s m args below meth c H locs ls F hzq hwd hS hl
theorem hq_zald {a j n : Nat} {f : Nat → Int32} {i : Int32} (hd : decode x.2.1 pc = .ok (.baload, 1)) (hM : M a = .inl (3, n, .inl f)) (ha : 8 ≤ a) (hz : a < z) (hi : i = nI j) (hj : j < n) (hn : n < 2 ^ 31) (kk : hq_W κ x d mc ms P cn sn (pc + 1) lo (.int (f j) :: st) z M) : hq_W κ x d mc ms P cn sn pc lo (.int i :: .ref a :: st) z M := by
  intro p e s m args below meth c H locs ls F hzq hwd hS hl
  obtain ⟨h1, h2⟩ := hz_vin hi hj hn
  refine va_zald F.1 F.2.1 F.2.2.2.2.2.2.2.2.2.1 (hz_one hwd hM ha hz) 0 3 rfl rfl h1 hd ?_
  rw [h2]
  exact kk p e s m args below meth c H locs ls F hzq hwd hS hl
theorem hq_lald {a j n : Nat} {f : Nat → Int64} {i : Int32} (hd : decode x.2.1 pc = .ok (.laload, 1)) (hM : M a = .inl (2, n, .inr (.inl f))) (ha : 8 ≤ a) (hz : a < z) (hi : i = nI j) (hj : j < n) (hn : n < 2 ^ 31) (kk : hq_W κ x d mc ms P cn sn (pc + 1) lo (.long (f j) :: st) z M) : hq_W κ x d mc ms P cn sn pc lo (.int i :: .ref a :: st) z M := by
  intro p e s m args below meth c H locs ls F hzq hwd hS hl
  obtain ⟨h1, h2⟩ := hz_vin hi hj hn
  refine va_lald F.1 F.2.1 F.2.2.2.2.2.2.2.2.2.1 (hz_one hwd hM ha hz) 0 2 rfl rfl h1 hd ?_
  rw [h2]
  exact kk p e s m args below meth c H locs ls F hzq hwd hS hl
theorem hq_aald {a j n r : Nat} {f : Nat → Option Nat} {i : Int32} (hd : decode x.2.1 pc = .ok (.aaload, 1)) (hM : M a = .inl (4, n, .inr (.inr (.inr (.inr f))))) (ha : 8 ≤ a) (hz : a < z) (hi : i = nI j) (hj : j < n) (hn : n < 2 ^ 31) (hr : f j = some r) (kk : hq_W κ x d mc ms P cn sn (pc + 1) lo (.ref r :: st) z M) : hq_W κ x d mc ms P cn sn pc lo (.int i :: .ref a :: st) z M := by
  intro p e s m args below meth c H locs ls F hzq hwd hS hl
  obtain ⟨h1, h2⟩ := hz_vin hi hj hn
  refine va_aldq F.1 F.2.1 F.2.2.2.2.2.2.2.2.2.1 (hz_one hwd hM ha hz) 0 4 rfl rfl h1 hd ?_
  rw [h2, hr]
  exact kk p e s m args below meth c H locs ls F hzq hwd hS hl
theorem hq_iast {a j n : Nat} {f : Nat → Int32} {i v : Int32} (hd : decode x.2.1 pc = .ok (.iastore, 1)) (hM : M a = .inl (0, n, .inl f)) (ha : 8 ≤ a) (hz : a < z) (hi : i = nI j) (hj : j < n) (hn : n < 2 ^ 31) (kk : hq_W κ x d mc ms P cn sn (pc + 1) lo st z (va_up M a (.inl (0, n, .inl (upd f j v))))) : hq_W κ x d mc ms P cn sn pc lo (.int v :: .int i :: .ref a :: st) z M := by
  intro p e s m args below meth c H locs ls F hzq hwd hS hl
  obtain ⟨h1, h2⟩ := hz_vin hi hj hn
  have hat := (hwd.2.2.2 a ha hz).1
  rw [hM] at hat
  have hK := F.2.2.2.2.2.2.2.2.2.1
  have hw := F.2.2.2.2.2.2.2.2.1
  refine W.iast F.1 F.2.1 hat ((hK.2 0 _ rfl).1 n (fun j => .int (f j))) (fun q => by cases q) (by show ¬ (i < 0 ∨ (arrV _ _ _).slots.size ≤ _); rw [arrV_size]; exact h1) rfl rfl hd fun H1 e1 e2 e3 => ?_
  refine kk p e s m args below meth c H1 _ ls F hzq (hwd.put hw ha hz ?_ trivial e2 e3) (hS.put e2 e3 (hz_adA hw ha)) hl
  show H1[κ.2.2.2.1 a]? = some (vp_cell _ _)
  rw [e1]
  show some ((vp_cell (κ.2.2.1 0) (n, .inl f)).setSlot _ _) = some (vp_cell (κ.2.2.1 0) (n, .inl (upd f j v)))
  rw [vp_cell_i, vp_cell_i, arrV_store, h2]
  congr 2
  funext q
  by_cases hq : q = j
  · subst hq; simp [updV, upd]
  · simp [updV, upd, hq]
theorem hq_bast {a j n : Nat} {f : Nat → Int32} {i v : Int32} (hd : decode x.2.1 pc = .ok (.bastore, 1)) (hM : M a = .inl (1, n, .inl f)) (ha : 8 ≤ a) (hz : a < z) (hi : i = nI j) (hj : j < n) (hn : n < 2 ^ 31) (kk : hq_W κ x d mc ms P cn sn (pc + 1) lo st z (va_up M a (.inl (1, n, .inl (upd f j v.toInt8.toInt32))))) : hq_W κ x d mc ms P cn sn pc lo (.int v :: .int i :: .ref a :: st) z M := by
  intro p e s m args below meth c H locs ls F hzq hwd hS hl
  obtain ⟨h1, h2⟩ := hz_vin hi hj hn
  have hat := (hwd.2.2.2 a ha hz).1
  rw [hM] at hat
  have hK := F.2.2.2.2.2.2.2.2.2.1
  have hw := F.2.2.2.2.2.2.2.2.1
  refine W.bast F.1 F.2.1 hat ((hK.2 1 _ rfl).1 n (fun j => .int (f j))) (fun q => by cases q) (by show ¬ (i < 0 ∨ (arrV _ _ _).slots.size ≤ _); rw [arrV_size]; exact h1) rfl rfl hd fun H1 e1 e2 e3 => ?_
  refine kk p e s m args below meth c H1 _ ls F hzq (hwd.put hw ha hz ?_ (hz_bfB (hM ▸ (hwd.2.2.2 a ha hz).2) v) e2 e3) (hS.put e2 e3 (hz_adA hw ha)) hl
  show H1[κ.2.2.2.1 a]? = some (vp_cell _ _)
  rw [e1]
  show some ((vp_cell (κ.2.2.1 1) (n, .inl f)).setSlot _ _) = some (vp_cell (κ.2.2.1 1) (n, .inl (upd f j v.toInt8.toInt32)))
  rw [vp_cell_i, vp_cell_i, arrV_store, h2]
  congr 2
  funext q
  by_cases hq : q = j
  · subst hq; simp [updV, upd, narrow]
  · simp [updV, upd, hq]
theorem hq_zast {a j n : Nat} {f : Nat → Int32} {i v : Int32} (hd : decode x.2.1 pc = .ok (.bastore, 1)) (hM : M a = .inl (3, n, .inl f)) (ha : 8 ≤ a) (hz : a < z) (hi : i = nI j) (hj : j < n) (hn : n < 2 ^ 31) (hv : v = 0 ∨ v = 1) (kk : hq_W κ x d mc ms P cn sn (pc + 1) lo st z (va_up M a (.inl (3, n, .inl (upd f j v))))) : hq_W κ x d mc ms P cn sn pc lo (.int v :: .int i :: .ref a :: st) z M := by
  intro p e s m args below meth c H locs ls F hzq hwd hS hl
  obtain ⟨h1, h2⟩ := hz_vin hi hj hn
  have hat := (hwd.2.2.2 a ha hz).1
  rw [hM] at hat
  have hK := F.2.2.2.2.2.2.2.2.2.1
  have hw := F.2.2.2.2.2.2.2.2.1
  refine W.zast F.1 F.2.1 hat ((hK.2 3 _ rfl).1 n (fun j => .int (f j))) (fun q => by cases q) (by show ¬ (i < 0 ∨ (arrV _ _ _).slots.size ≤ _); rw [arrV_size]; exact h1) rfl rfl hd fun H1 e1 e2 e3 => ?_
  refine kk p e s m args below meth c H1 _ ls F hzq (hwd.put hw ha hz ?_ (hz_bfZ (hM ▸ (hwd.2.2.2 a ha hz).2) hv) e2 e3) (hS.put e2 e3 (hz_adA hw ha)) hl
  show H1[κ.2.2.2.1 a]? = some (vp_cell _ _)
  rw [e1]
  show some ((vp_cell (κ.2.2.1 3) (n, .inl f)).setSlot _ _) = some (vp_cell (κ.2.2.1 3) (n, .inl (upd f j v)))
  rw [vp_cell_i, vp_cell_i, arrV_store, h2, show narrow .boolean (.int v) = .int v by rcases hv with rfl | rfl <;> rfl]
  congr 2
  funext q
  by_cases hq : q = j
  · subst hq; simp [updV, upd]
  · simp [updV, upd, hq]
theorem hq_last {a j n : Nat} {f : Nat → Int64} {i : Int32} {v : Int64} (hd : decode x.2.1 pc = .ok (.lastore, 1)) (hM : M a = .inl (2, n, .inr (.inl f))) (ha : 8 ≤ a) (hz : a < z) (hi : i = nI j) (hj : j < n) (hn : n < 2 ^ 31) (kk : hq_W κ x d mc ms P cn sn (pc + 1) lo st z (va_up M a (.inl (2, n, .inr (.inl (vp_updL f j v)))))) : hq_W κ x d mc ms P cn sn pc lo (.long v :: .int i :: .ref a :: st) z M := by
  intro p e s m args below meth c H locs ls F hzq hwd hS hl
  obtain ⟨h1, h2⟩ := hz_vin hi hj hn
  have hat := (hwd.2.2.2 a ha hz).1
  rw [hM] at hat
  have hK := F.2.2.2.2.2.2.2.2.2.1
  have hw := F.2.2.2.2.2.2.2.2.1
  refine W.last F.1 F.2.1 hat ((hK.2 2 _ rfl).1 n (fun j => .long (f j))) (fun q => by cases q) (by show ¬ (i < 0 ∨ (arrV _ _ _).slots.size ≤ _); rw [arrV_size]; exact h1) rfl rfl hd fun H1 e1 e2 e3 => ?_
  refine kk p e s m args below meth c H1 _ ls F hzq (hwd.put hw ha hz ?_ trivial e2 e3) (hS.put e2 e3 (hz_adA hw ha)) hl
  show H1[κ.2.2.2.1 a]? = some (vp_cell _ _)
  rw [e1]
  show some ((arrV (κ.2.2.1 2) n (fun j => .long (f j))).setSlot _ _) = some (arrV (κ.2.2.1 2) n (fun q => .long (vp_updL f j v q)))
  rw [arrV_store, h2]
  congr 2
  funext q
  by_cases hq : q = j
  · subst hq; simp [updV, vp_updL]
  · simp [updV, vp_updL, hq]
theorem hq_bytes {a n : Nat} {f : Nat → Int32} (hM : M a = .inl (1, n, .inl f)) (ha : 8 ≤ a) (hz : a < z) (k : (∀ j, j < n → (f j).toInt8.toInt32 = f j) → hq_W κ x d mc ms P cn sn pc lo st z M) : hq_W κ x d mc ms P cn sn pc lo st z M := by
  intro p e s m args below meth c H locs ls F hzq hwd hS hl
  have hb := (hwd.2.2.2 a ha hz).2
  rw [hM] at hb
  exact k hb p e s m args below meth c H locs ls F hzq hwd hS hl
theorem hq_bools {a n : Nat} {f : Nat → Int32} (hM : M a = .inl (3, n, .inl f)) (ha : 8 ≤ a) (hz : a < z) (k : (∀ j, j < n → f j = 0 ∨ f j = 1) → hq_W κ x d mc ms P cn sn pc lo st z M) : hq_W κ x d mc ms P cn sn pc lo st z M := by
  intro p e s m args below meth c H locs ls F hzq hwd hS hl
  have hb := (hwd.2.2.2 a ha hz).2
  rw [hM] at hb
  exact k hb p e s m args below meth c H locs ls F hzq hwd hS hl
end HQ08
section HQ09
variable {κ : hz_C} {x x2 : hz_X} {d d2 mc ms mc2 ms2 : Nat} {P P2 : hz_P} {cn sn pc idx n : Nat} {lo : List (Nat × Value)} {st stA As : List Value} {z : Nat} {M : hz_M}
theorem hq_callS (hd : decode x.2.1 pc = .ok (.invokestatic idx, 3)) (hc : hz_co x.1.cls idx x2 n) (hs : Cond.static x2.1 ∈ lw_tbl) (hM : hz_Mt κ x2 d2 mc2 ms2 As z M P2) (hn : As.length = n) (hdd : d2 + 1 ≤ d) (hrm : cn + mc2 ≤ mc ∧ sn + ms2 ≤ ms) (hsum : (st.map fun v => v.category).sum ≤ 8) (hst : As.reverse ++ st = stA)
    (kk : ∀ (r : Option Value) (z2 : Nat) (M2 : hz_M), P2 r z2 M2 → hq_W κ x d mc ms P (cn + mc2) (sn + ms2) (pc + 3) lo (r.toList ++ st) z2 M2) : hq_W κ x d mc ms P cn sn pc lo stA z M := by
  intro p e s m args below meth c H locs ls F hzq hwd hS hl
  subst hst
  refine hz_back (rest := st.map (hz_rv κ)) (va_runS (As := As.map (hz_rv κ)) ⟨F.1, F.2.1, F.2.2.1, F.2.2.2.1, F.2.2.2.2.1⟩ hM ⟨hz_cb F hc hdd rfl, F.2.2.2.2.1 _ (List.mem_cons_of_mem _ (hz_inT hs rfl))⟩ ⟨hz_blind κ As z M, hz_pre F hwd hS⟩ rfl (by rw [List.length_map]; exact hn) hl.1 (by rw [List.map_append, List.map_reverse]) (lv_room (hz_stm hsum)) hd hrm) hS (fun r z2 M2 H1 locs1 hp hw2 hS2 => ?_)
  rw [← hz_tl]
  exact kk r z2 M2 hp p e s m args below meth c H1 locs1 ls F hzq hw2 hS2 hl
theorem hq_callSQ (hd : decode x.2.1 pc = .ok (.invokestatic idx, 3)) (hc : hz_co x.1.cls idx x2 n) (hs : Cond.static x2.1 ∈ lw_tbl) (hM : hq_Mt κ x2 d2 mc2 ms2 As z M P2) (hn : As.length = n) (hdd : d2 + 1 ≤ d) (hrm : cn + mc2 ≤ mc ∧ sn + ms2 ≤ ms) (hsum : (st.map fun v => v.category).sum ≤ 8) (hst : As.reverse ++ st = stA)
    (kk : ∀ (r : Option Value) (z2 : Nat) (M2 : hz_M), P2 r z2 M2 → hq_W κ x d mc ms P (cn + mc2) (sn + ms2) (pc + 3) lo (r.toList ++ st) z2 M2) : hq_W κ x d mc ms P cn sn pc lo stA z M := by
  intro p e s m args below meth c H locs ls F hzq hwd hS hl
  subst hst
  refine hz_back (rest := st.map (hz_rv κ)) (va_runS (As := As.map (hz_rv κ)) ⟨F.1, F.2.1, F.2.2.1, F.2.2.2.1, F.2.2.2.2.1⟩ hM ⟨hz_cb F hc hdd rfl, F.2.2.2.2.1 _ (List.mem_cons_of_mem _ (hz_inT hs rfl))⟩ ⟨hq_blind κ As z M, hq_pre F hzq hwd hS⟩ rfl (by rw [List.length_map]; exact hn) hl.1 (by rw [List.map_append, List.map_reverse]) (lv_room (hz_stm hsum)) hd hrm) hS (fun r z2 M2 H1 locs1 hp hw2 hS2 => ?_)
  rw [← hz_tl]
  exact kk r z2 M2 hp p e s m args below meth c H1 locs1 ls F hzq hw2 hS2 hl
theorem hq_callV {a ci : Nat} {fs : List Value} {T : u_T} {N : Nat} (hd : decode x.2.1 pc = .ok (.invokevirtual idx, 3)) (hc : hz_co x.1.cls idx x2 n) (hi : Cond.instanceMethod x2.1 ∈ lw_tbl) (hs : Cond.selects x2.1.cls x2.1 x2.1 ∈ lw_tbl) (hcl : hz_kl[ci]? = some (x2.1.cls, T, N)) (hMa : M a = .inr (ci, fs)) (ha : 8 ≤ a) (hz : a < z) (hM : hz_Mt κ x2 d2 mc2 ms2 (.ref a :: As) z M P2) (hn : As.length = n) (hdd : d2 + 1 ≤ d) (hrm : cn + mc2 ≤ mc ∧ sn + ms2 ≤ ms) (hsum : (st.map fun v => v.category).sum ≤ 8) (hst : As.reverse ++ .ref a :: st = stA)
    (kk : ∀ (r : Option Value) (z2 : Nat) (M2 : hz_M), P2 r z2 M2 → hq_W κ x d mc ms P (cn + mc2) (sn + ms2) (pc + 3) lo (r.toList ++ st) z2 M2) : hq_W κ x d mc ms P cn sn pc lo stA z M := by
  intro p e s m args below meth c H locs ls F hzq hwd hS hl
  subst hst
  refine hz_back (rest := st.map (hz_rv κ)) (va_runV (C := x2.1.cls) (b := κ.2.2.2.1 a) (As := As.map (hz_rv κ)) ⟨F.1, F.2.1, F.2.2.1, F.2.2.2.1, F.2.2.2.2.1⟩ hM ⟨hz_cb F hc hdd rfl, F.2.2.2.2.1 _ (List.mem_cons_of_mem _ (hz_inT hi rfl)), F.2.2.2.2.1 _ (List.mem_cons_of_mem _ (hz_inT hs rfl))⟩ ⟨hz_blind κ (.ref a :: As) z M, va_recv F.2.2.2.2.2.2.2.2.2.1 (hz_one hwd hMa ha hz) hcl (q0 := 0) rfl, hz_pre F hwd hS⟩ rfl (by rw [List.length_map]; exact hn) hl.1 (by rw [List.map_append, List.map_reverse]; rfl) (lv_room (hz_stm hsum)) hd hrm) hS (fun r z2 M2 H1 locs1 hp hw2 hS2 => ?_)
  rw [← hz_tl]
  exact kk r z2 M2 hp p e s m args below meth c H1 locs1 ls F hzq hw2 hS2 hl
theorem hq_callVQ {a ci : Nat} {fs : List Value} {T : u_T} {N : Nat} (hd : decode x.2.1 pc = .ok (.invokevirtual idx, 3)) (hc : hz_co x.1.cls idx x2 n) (hi : Cond.instanceMethod x2.1 ∈ lw_tbl) (hs : Cond.selects x2.1.cls x2.1 x2.1 ∈ lw_tbl) (hcl : hz_kl[ci]? = some (x2.1.cls, T, N)) (hMa : M a = .inr (ci, fs)) (ha : 8 ≤ a) (hz : a < z) (hM : hq_Mt κ x2 d2 mc2 ms2 (.ref a :: As) z M P2) (hn : As.length = n) (hdd : d2 + 1 ≤ d) (hrm : cn + mc2 ≤ mc ∧ sn + ms2 ≤ ms) (hsum : (st.map fun v => v.category).sum ≤ 8) (hst : As.reverse ++ .ref a :: st = stA)
    (kk : ∀ (r : Option Value) (z2 : Nat) (M2 : hz_M), P2 r z2 M2 → hq_W κ x d mc ms P (cn + mc2) (sn + ms2) (pc + 3) lo (r.toList ++ st) z2 M2) : hq_W κ x d mc ms P cn sn pc lo stA z M := by
  intro p e s m args below meth c H locs ls F hzq hwd hS hl
  subst hst
  refine hz_back (rest := st.map (hz_rv κ)) (va_runV (C := x2.1.cls) (b := κ.2.2.2.1 a) (As := As.map (hz_rv κ)) ⟨F.1, F.2.1, F.2.2.1, F.2.2.2.1, F.2.2.2.2.1⟩ hM ⟨hz_cb F hc hdd rfl, F.2.2.2.2.1 _ (List.mem_cons_of_mem _ (hz_inT hi rfl)), F.2.2.2.2.1 _ (List.mem_cons_of_mem _ (hz_inT hs rfl))⟩ ⟨hq_blind κ (.ref a :: As) z M, va_recv F.2.2.2.2.2.2.2.2.2.1 (hz_one hwd hMa ha hz) hcl (q0 := 0) rfl, hq_pre F hzq hwd hS⟩ rfl (by rw [List.length_map]; exact hn) hl.1 (by rw [List.map_append, List.map_reverse]; rfl) (lv_room (hz_stm hsum)) hd hrm) hS (fun r z2 M2 H1 locs1 hp hw2 hS2 => ?_)
  rw [← hz_tl]
  exact kk r z2 M2 hp p e s m args below meth c H1 locs1 ls F hzq hw2 hS2 hl
theorem hq_callTQ {t : Nat} (htt : t < 2) (hcs : x2.1.cls = "java/lang/String") (hd : decode x.2.1 pc = .ok (.invokevirtual idx, 3)) (hc : hz_co x.1.cls idx x2 n) (hi : Cond.instanceMethod x2.1 ∈ lw_tbl) (hs : Cond.selects x2.1.cls x2.1 x2.1 ∈ lw_tbl) (hM : hq_Mt κ x2 d2 mc2 ms2 (.ref (4 + t) :: As) z M P2) (hn : As.length = n) (hdd : d2 + 1 ≤ d) (hrm : cn + mc2 ≤ mc ∧ sn + ms2 ≤ ms) (hsum : (st.map fun v => v.category).sum ≤ 8) (hst : As.reverse ++ .ref (4 + t) :: st = stA)
    (kk : ∀ (r : Option Value) (z2 : Nat) (M2 : hz_M), P2 r z2 M2 → hq_W κ x d mc ms P (cn + mc2) (sn + ms2) (pc + 3) lo (r.toList ++ st) z2 M2) : hq_W κ x d mc ms P cn sn pc lo stA z M := by
  intro p e s m args below meth c H locs ls F hzq hwd hS hl
  subst hst
  refine hz_back (rest := st.map (hz_rv κ)) (va_runV (C := x2.1.cls) (b := κ.2.2.2.1 (4 + t)) (As := As.map (hz_rv κ)) ⟨F.1, F.2.1, F.2.2.1, F.2.2.2.1, F.2.2.2.2.1⟩ hM ⟨hz_cb F hc hdd rfl, F.2.2.2.2.1 _ (List.mem_cons_of_mem _ (hz_inT hi rfl)), F.2.2.2.2.1 _ (List.mem_cons_of_mem _ (hz_inT hs rfl))⟩ ⟨hq_blind κ (.ref (4 + t) :: As) z M, (by rw [hcs]; have q9 := vk_recv (i := t) F.2.2.2.2.2.2.2.2.2.2.2.1 htt hS; exact q9), hq_pre F hzq hwd hS⟩ rfl (by rw [List.length_map]; exact hn) hl.1 (by rw [List.map_append, List.map_reverse]; rfl) (lv_room (hz_stm hsum)) hd hrm) hS (fun r z2 M2 H1 locs1 hp hw2 hS2 => ?_)
  rw [← hz_tl]
  exact kk r z2 M2 hp p e s m args below meth c H1 locs1 ls F hzq hw2 hS2 hl
theorem hq_callI {a : Nat} (hd : decode x.2.1 pc = .ok (.invokespecial idx, 3)) (hc : hz_co x.1.cls idx x2 n) (hi : Cond.instanceMethod x2.1 ∈ lw_tbl) (hnm : x2.1.name = "<init>") (hret : x2.2.2.2 = none) (hM : hz_Mt κ x2 d2 mc2 ms2 (.ref a :: As) z M P2) (hn : As.length = n) (hdd : d2 + 1 ≤ d) (hrm : cn + mc2 ≤ mc ∧ sn + ms2 ≤ ms) (hsum : (st.map fun v => v.category).sum ≤ 8) (hst : As.reverse ++ .ref a :: st = stA)
    (kk : ∀ (r : Option Value) (z2 : Nat) (M2 : hz_M), P2 r z2 M2 → hq_W κ x d mc ms P (cn + mc2) (sn + ms2) (pc + 3) lo (r.toList ++ st) z2 M2) : hq_W κ x d mc ms P cn sn pc lo stA z M := by
  intro p e s m args below meth c H locs ls F hzq hwd hS hl
  subst hst
  have hcb := hz_cb (mc2 := mc2) (ms2 := ms2) (mc := mc) (ms := ms) F hc hdd rfl
  rw [hret] at hcb
  refine hz_back (rest := st.map (hz_rv κ)) (va_runI (b := κ.2.2.2.1 a) (As := As.map (hz_rv κ)) ⟨F.1, F.2.1, F.2.2.1, F.2.2.2.1, F.2.2.2.2.1⟩ hM ⟨hcb, hnm, F.2.2.2.2.1 _ (List.mem_cons_of_mem _ (hz_inT hi rfl))⟩ ⟨hz_blind κ (.ref a :: As) z M, hz_pre F hwd hS⟩ rfl (by rw [List.length_map]; exact hn) hl.1 (by rw [List.map_append, List.map_reverse]; rfl) (lv_room (hz_stm hsum)) hd hrm) hS (fun r z2 M2 H1 locs1 hp hw2 hS2 => ?_)
  rw [← hz_tl]
  exact kk r z2 M2 hp p e s m args below meth c H1 locs1 ls F hzq hw2 hS2 hl
theorem hq_callIN {a : Nat} {host : String} (hd : decode x.2.1 pc = .ok (.invokespecial idx, 3)) (hc : hz_cn x.1.cls idx x2 n host) (hi : Cond.instanceMethod x2.1 ∈ lw_tbl) (hnm : x2.1.name = "<init>") (hret : x2.2.2.2 = none) (hM : hz_Mt κ x2 d2 mc2 ms2 (.ref a :: As) z M P2) (hn : As.length = n) (hdd : d2 + 1 ≤ d) (hrm : cn + mc2 ≤ mc ∧ sn + ms2 ≤ ms) (hsum : (st.map fun v => v.category).sum ≤ 8) (hst : As.reverse ++ .ref a :: st = stA)
    (kk : ∀ (r : Option Value) (z2 : Nat) (M2 : hz_M), P2 r z2 M2 → hq_W κ x d mc ms P (cn + mc2) (sn + ms2) (pc + 3) lo (r.toList ++ st) z2 M2) : hq_W κ x d mc ms P cn sn pc lo stA z M := by
  intro p e s m args below meth c H locs ls F hzq hwd hS hl
  subst hst
  obtain ⟨h1, h2, h3, h4, h5⟩ := hc
  have hcw : va_CN (hz_rm d mc ms) s args x.1.cls idx x2.1 host x2.2.1 x2.2.2.1 x2.2.2.2 (hz_ws x2) (hz_rm d2 mc2 ms2) mc2 ms2 n := by
    refine va_cnB n F.2.2.2.2.1 (hz_good h2) rfl rfl rfl (F.2.2.2.2.2.2.2.2.2.2.2.2.2.2.2.1 _ _ _ _ h1) (F.2.2.2.2.1 _ (List.mem_cons_of_mem _ (hz_inT h3 rfl))) h4 ⟨hdd, ?_⟩
    show 8 + (x2.2.2.1 + 11) + 48 * d2 ≤ 48 * d
    omega
  rw [hret] at hcw
  refine hz_back (rest := st.map (hz_rv κ)) (va_runIN (b := κ.2.2.2.1 a) (As := As.map (hz_rv κ)) ⟨F.1, F.2.1, F.2.2.1, F.2.2.2.1, F.2.2.2.2.1⟩ hM ⟨hcw, hnm, F.2.2.2.2.1 _ (List.mem_cons_of_mem _ (hz_inT hi rfl))⟩ ⟨hz_blind κ (.ref a :: As) z M, hz_pre F hwd hS⟩ rfl (by rw [List.length_map]; exact hn) hl.1 (by rw [List.map_append, List.map_reverse]; rfl) (lv_room (hz_stm hsum)) hd hrm) hS (fun r z2 M2 H1 locs1 hp hw2 hS2 => ?_)
  rw [← hz_tl]
  exact kk r z2 M2 hp p e s m args below meth c H1 locs1 ls F hzq hw2 hS2 hl
theorem hq_W.widen {cn2 sn2 : Nat} (h1 : cn ≤ cn2) (h2 : sn ≤ sn2) (h : hq_W κ x d mc ms P cn2 sn2 pc lo st z M) : hq_W κ x d mc ms P cn sn pc lo st z M :=
  fun p e s m args below meth c H locs ls F hzq hwd hS hl => W.widen h1 h2 (h p e s m args below meth c H locs ls F hzq hwd hS hl)
end HQ09
section HQ13
variable {κ : hz_C} {x : hz_X} {d mc ms : Nat} {P : hz_P} {cn sn pc : Nat} {lo : List (Nat × Value)} {st : List Value} {z : Nat} {M : hz_M} {a b : Nat}
variable {κ : hz_C} {x x2 : hz_X} {d d2 mc ms mc2 ms2 : Nat} {P : hz_P} {cn sn pc idx n : Nat} {lo : List (Nat × Value)} {st stA As : List Value} {z z2 : Nat} {M M2 : hz_M} {v : Option Value}
theorem hq_n_eq {off : Int} {tgt : Nat} (hd : decode x.2.1 pc = .ok (.if_icmp .eq off, 3)) (ht : (pc : Int) + off = (tgt : Int)) (ha : a < 2 ^ 31) (hb : b < 2 ^ 31) (kt : a = b → hq_W κ x d mc ms P cn sn (tgt) lo (st) z M) (kf : ¬ a = b → hq_W κ x d mc ms P cn sn (pc + 3) lo (st) z M) : hq_W κ x d mc ms P cn sn (pc) lo (.int (nI b) :: .int (nI a) :: st) z M :=
  hq_icmp_eq hd ht (fun q => kt ((nI_eq ha hb).mp q)) (fun q => kf (fun r => q ((nI_eq ha hb).mpr r)))
theorem hq_n_ne {off : Int} {tgt : Nat} (hd : decode x.2.1 pc = .ok (.if_icmp .ne off, 3)) (ht : (pc : Int) + off = (tgt : Int)) (ha : a < 2 ^ 31) (hb : b < 2 ^ 31) (kt : ¬ a = b → hq_W κ x d mc ms P cn sn (tgt) lo (st) z M) (kf : a = b → hq_W κ x d mc ms P cn sn (pc + 3) lo (st) z M) : hq_W κ x d mc ms P cn sn (pc) lo (.int (nI b) :: .int (nI a) :: st) z M :=
  hq_icmp_ne hd ht (fun q => kt (fun r => q ((nI_eq ha hb).mpr r))) (fun q => kf ((nI_eq ha hb).mp q))
theorem hq_n_lt {off : Int} {tgt : Nat} (hd : decode x.2.1 pc = .ok (.if_icmp .lt off, 3)) (ht : (pc : Int) + off = (tgt : Int)) (ha : a < 2 ^ 31) (hb : b < 2 ^ 31) (kt : a < b → hq_W κ x d mc ms P cn sn (tgt) lo (st) z M) (kf : b ≤ a → hq_W κ x d mc ms P cn sn (pc + 3) lo (st) z M) : hq_W κ x d mc ms P cn sn (pc) lo (.int (nI b) :: .int (nI a) :: st) z M :=
  hq_icmp_lt hd ht (fun q => kt ((nI_ltI ha hb).mp q)) (fun q => kf (by have r : ¬ _ := fun r => q ((nI_ltI ha hb).mpr r); omega))
theorem hq_n_ge {off : Int} {tgt : Nat} (hd : decode x.2.1 pc = .ok (.if_icmp .ge off, 3)) (ht : (pc : Int) + off = (tgt : Int)) (ha : a < 2 ^ 31) (hb : b < 2 ^ 31) (kt : b ≤ a → hq_W κ x d mc ms P cn sn (tgt) lo (st) z M) (kf : a < b → hq_W κ x d mc ms P cn sn (pc + 3) lo (st) z M) : hq_W κ x d mc ms P cn sn (pc) lo (.int (nI b) :: .int (nI a) :: st) z M :=
  hq_icmp_ge hd ht (fun q => kt ((nI_leI hb ha).mp q)) (fun q => kf (by have r : ¬ _ := fun r => q ((nI_leI hb ha).mpr r); omega))
theorem hq_n_gt {off : Int} {tgt : Nat} (hd : decode x.2.1 pc = .ok (.if_icmp .gt off, 3)) (ht : (pc : Int) + off = (tgt : Int)) (ha : a < 2 ^ 31) (hb : b < 2 ^ 31) (kt : b < a → hq_W κ x d mc ms P cn sn (tgt) lo (st) z M) (kf : a ≤ b → hq_W κ x d mc ms P cn sn (pc + 3) lo (st) z M) : hq_W κ x d mc ms P cn sn (pc) lo (.int (nI b) :: .int (nI a) :: st) z M :=
  hq_icmp_gt hd ht (fun q => kt ((nI_ltI hb ha).mp q)) (fun q => kf (by have r : ¬ _ := fun r => q ((nI_ltI hb ha).mpr r); omega))
theorem hq_n_le {off : Int} {tgt : Nat} (hd : decode x.2.1 pc = .ok (.if_icmp .le off, 3)) (ht : (pc : Int) + off = (tgt : Int)) (ha : a < 2 ^ 31) (hb : b < 2 ^ 31) (kt : a ≤ b → hq_W κ x d mc ms P cn sn (tgt) lo (st) z M) (kf : b < a → hq_W κ x d mc ms P cn sn (pc + 3) lo (st) z M) : hq_W κ x d mc ms P cn sn (pc) lo (.int (nI b) :: .int (nI a) :: st) z M :=
  hq_icmp_le hd ht (fun q => kt ((nI_leI ha hb).mp q)) (fun q => kf (by have r : ¬ _ := fun r => q ((nI_leI ha hb).mpr r); omega))
theorem hq_z_eq {off : Int} {tgt : Nat} (hd : decode x.2.1 pc = .ok (.ifCond .eq off, 3)) (ht : (pc : Int) + off = (tgt : Int)) (ha : a < 2 ^ 31) (kt : a = 0 → hq_W κ x d mc ms P cn sn (tgt) lo (st) z M) (kf : 0 < a → hq_W κ x d mc ms P cn sn (pc + 3) lo (st) z M) : hq_W κ x d mc ms P cn sn (pc) lo (.int (nI a) :: st) z M :=
  hq_if_eq hd ht (fun q => kt (by rcases Nat.eq_zero_or_pos a with r | r; exact r; exact absurd q (nI_ne0 r ha))) (fun q => kf (by rcases Nat.eq_zero_or_pos a with r | r; subst r; exact absurd nI_0 q; exact r))
theorem hq_z_ne {off : Int} {tgt : Nat} (hd : decode x.2.1 pc = .ok (.ifCond .ne off, 3)) (ht : (pc : Int) + off = (tgt : Int)) (ha : a < 2 ^ 31) (kt : 0 < a → hq_W κ x d mc ms P cn sn (tgt) lo (st) z M) (kf : a = 0 → hq_W κ x d mc ms P cn sn (pc + 3) lo (st) z M) : hq_W κ x d mc ms P cn sn (pc) lo (.int (nI a) :: st) z M :=
  hq_if_ne hd ht (fun q => kt (by rcases Nat.eq_zero_or_pos a with r | r; subst r; exact absurd nI_0 q; exact r)) (fun q => kf (by rcases Nat.eq_zero_or_pos a with r | r; exact r; exact absurd q (nI_ne0 r ha)))
theorem hq_z_gt {off : Int} {tgt : Nat} (hd : decode x.2.1 pc = .ok (.ifCond .gt off, 3)) (ht : (pc : Int) + off = (tgt : Int)) (ha : a < 2 ^ 31) (kt : 0 < a → hq_W κ x d mc ms P cn sn (tgt) lo (st) z M) (kf : a = 0 → hq_W κ x d mc ms P cn sn (pc + 3) lo (st) z M) : hq_W κ x d mc ms P cn sn (pc) lo (.int (nI a) :: st) z M :=
  hq_if_gt hd ht (fun q => kt (by rcases Nat.eq_zero_or_pos a with r | r; subst r; exact absurd q (by decide); exact r)) (fun q => kf (by rcases Nat.eq_zero_or_pos a with r | r; exact r; exact absurd (nI_0 ▸ nI_lt r ha) q))
theorem hq_z_le {off : Int} {tgt : Nat} (hd : decode x.2.1 pc = .ok (.ifCond .le off, 3)) (ht : (pc : Int) + off = (tgt : Int)) (ha : a < 2 ^ 31) (kt : a = 0 → hq_W κ x d mc ms P cn sn (tgt) lo (st) z M) (kf : 0 < a → hq_W κ x d mc ms P cn sn (pc + 3) lo (st) z M) : hq_W κ x d mc ms P cn sn (pc) lo (.int (nI a) :: st) z M :=
  hq_if_le hd ht (fun q => kt (by rcases Nat.eq_zero_or_pos a with r | r; exact r; exact absurd q (nI_nle r ha))) (fun q => kf (by rcases Nat.eq_zero_or_pos a with r | r; subst r; exact absurd (by decide) q; exact r))
theorem hq_z_lt {off : Int} {tgt : Nat} (hd : decode x.2.1 pc = .ok (.ifCond .lt off, 3)) (ht : (pc : Int) + off = (tgt : Int)) (ha : a < 2 ^ 31) (kf : hq_W κ x d mc ms P cn sn (pc + 3) lo (st) z M) : hq_W κ x d mc ms P cn sn (pc) lo (.int (nI a) :: st) z M :=
  hq_if_lt hd ht (fun q => absurd q (nI_pos ha)) (fun _ => kf)
theorem hq_z_ge {off : Int} {tgt : Nat} (hd : decode x.2.1 pc = .ok (.ifCond .ge off, 3)) (ht : (pc : Int) + off = (tgt : Int)) (ha : a < 2 ^ 31) (kt : hq_W κ x d mc ms P cn sn (tgt) lo (st) z M) : hq_W κ x d mc ms P cn sn (pc) lo (.int (nI a) :: st) z M :=
  hq_if_ge hd ht (fun _ => kt) (fun q => absurd (nI_pos' ha) q)
theorem hq_addN (hd : decode x.2.1 pc = .ok (.iadd, 1)) (k : hq_W κ x d mc ms P cn sn (pc + 1) lo (.int (nI (a + b)) :: st) z M) : hq_W κ x d mc ms P cn sn (pc) lo (.int (nI b) :: .int (nI a) :: st) z M := hq_iadd hd (hq_eqi (nI_add a b) k)
theorem hq_mulN (hd : decode x.2.1 pc = .ok (.imul, 1)) (k : hq_W κ x d mc ms P cn sn (pc + 1) lo (.int (nI (a * b)) :: st) z M) : hq_W κ x d mc ms P cn sn (pc) lo (.int (nI b) :: .int (nI a) :: st) z M := hq_imul hd (hq_eqi (pk_mul a b) k)
theorem hq_subN (hd : decode x.2.1 pc = .ok (.isub, 1)) (h : b ≤ a) (k : hq_W κ x d mc ms P cn sn (pc + 1) lo (.int (nI (a - b)) :: st) z M) : hq_W κ x d mc ms P cn sn (pc) lo (.int (nI b) :: .int (nI a) :: st) z M := hq_isub hd (hq_eqi (pk_sub h) k)
theorem hq_divN (hd : decode x.2.1 pc = .ok (.idiv, 1)) (ha : a < 2 ^ 31) (h0 : 0 < b) (hb : b < 2 ^ 31) (k : hq_W κ x d mc ms P cn sn (pc + 1) lo (.int (nI (a / b)) :: st) z M) : hq_W κ x d mc ms P cn sn (pc) lo (.int (nI b) :: .int (nI a) :: st) z M := hq_idiv hd (nI_ne0 h0 hb) (hq_eqi (pk_div ha h0 hb) k)
theorem hq_remN (hd : decode x.2.1 pc = .ok (.irem, 1)) (ha : a < 2 ^ 31) (h0 : 0 < b) (hb : b < 2 ^ 31) (k : hq_W κ x d mc ms P cn sn (pc + 1) lo (.int (nI (a % b)) :: st) z M) : hq_W κ x d mc ms P cn sn (pc) lo (.int (nI b) :: .int (nI a) :: st) z M := hq_irem hd (nI_ne0 h0 hb) (hq_eqi (pk_rem ha h0 hb) k)
theorem hq_incN {i : Nat} {lo2 : List (Nat × Value)} (j : Nat) (hd : decode x.2.1 pc = .ok (.iinc i 1, 3)) (hj : lo[j]? = some (i, .int (nI a))) (hn : i < x.2.2.1) (hlo : (i, Value.int (nI (a + 1))) :: lo.filter (fun q => !(q.1 == i) && !(q.1 + 1 == i && q.2.category == 2)) = lo2) (k : hq_W κ x d mc ms P cn sn (pc + 3) lo2 (st) z M) : hq_W κ x d mc ms P cn sn (pc) lo (st) z M := hq_iinc (w := nI (a + 1)) j hd hj (by rw [nI_succ]; rfl) hn hlo k
theorem hq_decN {i : Nat} {lo2 : List (Nat × Value)} (j : Nat) (hd : decode x.2.1 pc = .ok (.iinc i (-1), 3)) (hj : lo[j]? = some (i, .int (nI (a + 1)))) (hn : i < x.2.2.1) (hlo : (i, Value.int (nI a)) :: lo.filter (fun q => !(q.1 == i) && !(q.1 + 1 == i && q.2.category == 2)) = lo2) (k : hq_W κ x d mc ms P cn sn (pc + 3) lo2 (st) z M) : hq_W κ x d mc ms P cn sn (pc) lo (st) z M := hq_iinc (w := nI a) j hd hj (pk_m1 a) hn hlo k
theorem hq_xS (hd : decode x.2.1 pc = .ok (.invokestatic idx, 3)) (hc : hz_co x.1.cls idx x2 n) (hs : Cond.static x2.1 ∈ lw_tbl) (hM : hz_Mt κ x2 d2 0 0 As z M (hz_ex v z2 M2)) (hn : As.length = n) (hdd : d2 + 1 ≤ d) (hrm : cn ≤ mc ∧ sn ≤ ms) (hsum : (st.map fun v => v.category).sum ≤ 8) (hst : As.reverse ++ st = stA) (kk : hq_W κ x d mc ms P cn sn (pc + 3) lo (v.toList ++ st) z2 M2) : hq_W κ x d mc ms P cn sn pc lo stA z M :=
  hq_callS hd hc hs hM hn hdd hrm hsum hst (fun r z3 M3 h => by obtain ⟨rfl, rfl, rfl⟩ := h; exact kk)
theorem hq_xV {a ci : Nat} {fs : List Value} {T : u_T} {N : Nat} (hd : decode x.2.1 pc = .ok (.invokevirtual idx, 3)) (hc : hz_co x.1.cls idx x2 n) (hi : Cond.instanceMethod x2.1 ∈ lw_tbl) (hs : Cond.selects x2.1.cls x2.1 x2.1 ∈ lw_tbl) (hcl : hz_kl[ci]? = some (x2.1.cls, T, N)) (hMa : M a = .inr (ci, fs)) (ha : 8 ≤ a) (hz : a < z) (hM : hz_Mt κ x2 d2 0 0 (.ref a :: As) z M (hz_ex v z2 M2)) (hn : As.length = n) (hdd : d2 + 1 ≤ d) (hrm : cn ≤ mc ∧ sn ≤ ms) (hsum : (st.map fun v => v.category).sum ≤ 8) (hst : As.reverse ++ .ref a :: st = stA) (kk : hq_W κ x d mc ms P cn sn (pc + 3) lo (v.toList ++ st) z2 M2) : hq_W κ x d mc ms P cn sn pc lo stA z M :=
  hq_callV hd hc hi hs hcl hMa ha hz hM hn hdd hrm hsum hst (fun r z3 M3 h => by obtain ⟨rfl, rfl, rfl⟩ := h; exact kk)
end HQ13
section HQdu
variable {κ : hz_C} {x : hz_X} {d mc ms : Nat} {P : hz_P} {cn sn pc : Nat} {lo : List (Nat × Value)} {st : List Value} {z : Nat} {M : hz_M}
theorem hq_newa {atype : ArrayType} {t n : Nat} {g : (Nat → Int32) ⊕ (Nat → Int64) ⊕ (Nat → UInt32) ⊕ (Nat → UInt64) ⊕ (Nat → Option Nat)} (hd : decode x.2.1 pc = .ok (.newarray atype, 2)) (harr : Cond.arrayClass (newarray.typeOf atype) ∈ lw_tbl) (ht : (hz_tys κ)[t]? = some (κ.2.2.1 t, newarray.typeOf atype)) (hre : hz_re κ (.inl (t, n, g)) = .inl (κ.2.2.1 t, n, g)) (hg : ∀ cA : ClassId, vp_cell cA (n, g) = arrV cA n (fun _ => defaultValue (newarray.typeOf atype))) (hbf : hz_bf (.inl (t, n, g))) (hn : n < 2 ^ 30) (hby : n * componentBytes (newarray.typeOf atype) ≤ 536870912) (hc : cn + 1 ≤ mc) (hs : sn + n ≤ ms)
    (kk : hq_W κ x d mc ms P (cn + 1) (sn + n) (pc + 2) lo (.ref z :: st) (z + 1) (va_up M z (.inl (t, n, g)))) : hq_W κ x d mc ms P cn sn pc lo (.int (nI n) :: st) z M := by
  intro p e s m args below meth c H locs ls F hzq hwd hS hl
  have hw := F.2.2.2.2.2.2.2.2.1
  have hK := F.2.2.2.2.2.2.2.2.2.1
  have ez := hz_adz hwd hw
  refine va_newaK F.1 F.2.1 (F.2.2.2.2.1 _ (List.mem_cons_of_mem _ (hz_inT harr rfl))) rfl hd rfl (nI_pos (by omega)) (hz_vin (j := n) (n := n + 1) rfl (Nat.lt_succ_self n) (by omega)).2 hby hc hs rfl (fun H1 cA e1 z1 o1 hAr hNm => ?_)
  have h2 := (hK.2 t _ ht).2
  have h3 : s.vm.findClass ("[" ++ (newarray.typeOf atype).toString) = some (κ.2.2.1 t) := by cases atype <;> exact h2
  have h4 : κ.2.2.1 t = cA := Option.some.inj (h3.symm.trans hNm)
  have he : va_at κ.2.1 hz_kl (κ.2.2.2.1 z, hz_re κ (.inl (t, n, g))) H1 := by
    rw [hre, ez, h4]
    show H1[H.size]? = some (vp_cell cA (n, g))
    rw [hg]
    exact e1
  have hwd1 := hwd.new hw he hbf z1 o1
  have hS1 : va_S (hz_A κ) s.heap H1 locs := ⟨Nat.le_trans hS.1 (by omega), fun y h1 h2 => (o1 y (Nat.lt_of_lt_of_le h1 hS.1)).trans (hS.2.1 y h1 h2), hS.2.2⟩
  have q := kk p e s m args below meth c H1 locs ls F hzq hwd1 hS1 hl
  have eq9 : (Value.ref z :: st).map (hz_rv κ) = Value.ref H.size :: st.map (hz_rv κ) := by
    show Value.ref (κ.2.2.2.1 z) :: st.map (hz_rv κ) = _
    rw [ez]
  rw [eq9] at q
  exact q
theorem hq_new {idx ci N : Nat} {C : String} {T : u_T} {fs : List Value} (hd : decode x.2.1 pc = .ok (.new idx, 3)) (hcl : hz_kl[ci]? = some (C, T, N)) (hin : ∀ w ∈ u_ws C T N, w ∈ lw_tbl) (ty : Nat → FieldType) (hty : ∀ k, k < N → parseFieldDescriptor (T k).2.2.1 = some (ty k)) (hlk : Cond.classLink x.1.cls idx C ∈ lw_tbl) (hinst : Cond.instantiable C N ∈ lw_tbl) (hini : Cond.initialized C ∈ lw_tbl) (hfs : ∀ j, j < N → defaultValue (ty j) = vp_V fs j) (hfr : fs.map (hz_rv κ) = fs) (hc : cn + 1 ≤ mc) (hs : sn + N ≤ ms)
    (kk : hq_W κ x d mc ms P (cn + 1) (sn + N) (pc + 3) lo (.ref z :: st) (z + 1) (va_up M z (.inr (ci, fs)))) : hq_W κ x d mc ms P cn sn pc lo st z M := by
  intro p e s m args below meth c H locs ls F hzq hwd hS hl
  have hw := F.2.2.2.2.2.2.2.2.1
  have hK := F.2.2.2.2.2.2.2.2.2.1
  have ez := hz_adz hwd hw
  have hKn := hK.1 ci _ hcl
  refine W.newcK F.1 F.2.1 F.2.2.2.1 (F.2.2.2.2.1 _ (List.mem_cons_of_mem _ (hz_inT hlk rfl))) (F.2.2.2.2.1 _ (List.mem_cons_of_mem _ (hz_inT hinst rfl))) (F.2.2.2.2.1 _ (List.mem_cons_of_mem _ (hz_inT hini rfl))) rfl hd hc hs hKn.2.1 rfl fun H1 kC hkC e1 z1 o1 => ?_
  have he : va_at κ.2.1 hz_kl (κ.2.2.2.1 z, hz_re κ (.inr (ci, fs))) H1 := by
    rw [ez]
    show va_at κ.2.1 hz_kl (H.size, .inr (ci, fs.map (hz_rv κ))) H1
    rw [hfr]
    exact ⟨_, hcl, (u_born ty F.2.2.2.2.1 (fun w hw9 => List.mem_cons_of_mem _ (hz_inU hin w hw9)) hKn hkC e1 hty).to hfs⟩
  have hwd1 := hwd.new hw he trivial z1 o1
  have hS1 : va_S (hz_A κ) s.heap H1 locs := ⟨Nat.le_trans hS.1 (by omega), fun y h1 h2 => (o1 y (Nat.lt_of_lt_of_le h1 hS.1)).trans (hS.2.1 y h1 h2), hS.2.2⟩
  have q := kk p e s m args below meth c H1 locs ls F hzq hwd1 hS1 hl
  have eq9 : (Value.ref z :: st).map (hz_rv κ) = Value.ref H.size :: st.map (hz_rv κ) := by
    show Value.ref (κ.2.2.2.1 z) :: st.map (hz_rv κ) = _
    rw [ez]
  rw [eq9] at q
  exact q
end HQdu
section HQdv
variable {κ : hz_C} {x : hz_X} {d mc ms : Nat} {P : hz_P} {cn sn pc : Nat} {lo : List (Nat × Value)} {st : List Value} {z : Nat} {M : hz_M}
theorem hq_putF {a ci k idx : Nat} {fs : List Value} {v : Value} {ty : FieldType} (hd : decode x.2.1 pc = .ok (.putfield idx, 3)) (hf : hz_fo x.1.cls idx ci k) (hf1 : hz_fo1 ci k ty true) (ho : (hz_kl[ci]?).map (fun q => q.1) = some x.1.cls) (hin2 : x.1.name = "<init>") (hM : M a = .inr (ci, fs)) (ha : 8 ≤ a) (hz : a < z) (hn : narrow ty (hz_rv κ v) = hz_rv κ v) (hfit : fits ty (hz_rv κ v) = true) (hlen : k < fs.length) (kk : hq_W κ x d mc ms P cn sn (pc + 3) lo st z (va_up M a (.inr (ci, fs.set k v)))) : hq_W κ x d mc ms P cn sn pc lo (v :: .ref a :: st) z M := by
  intro p e s m args below meth c H locs ls F hzq hwd hS hl
  obtain ⟨C, T, N, ty0, hc, hk, hlink, hin, hty, hnm⟩ := hf
  obtain ⟨C1, T1, N1, hc1, hfin, hd1, hdc⟩ := hf1
  cases hc.symm.trans hc1
  have hCx : C = x.1.cls := by rw [hc] at ho; exact Option.some.inj ho
  have hdecl : (T k).1 = x.1.cls := hdc.trans hCx
  have hat := (hwd.2.2.2 a ha hz).1
  rw [hM] at hat
  obtain ⟨r, h1, cell, q1, q2, q3, q4⟩ := hat
  have hr : r = (C, T, N) := Option.some.inj (h1.symm.trans hc)
  subst hr
  have hts : ∀ w ∈ hz_ws x, w.before args s = true := F.2.2.2.2.1
  have hin' : ∀ w ∈ u_ws C T N, w ∈ hz_ws x := fun w hw => List.mem_cons_of_mem _ (hz_inU hin w hw)
  have hK := F.2.2.2.2.2.2.2.2.2.1
  have hw := F.2.2.2.2.2.2.2.2.1
  have hown := F.2.2.2.1
  have hap := va_apart (own := x.1.cls) hts hin' ty0 hty hnm hK hc
  obtain ⟨hSl, hfc, kC, hkC, hkind⟩ := hK.1 ci _ hc
  obtain ⟨cf, kf, fi, f, hi, hsl⟩ := hSl k hk
  have hlay := hts _ (hin' _ (u_in_lay hk))
  unfold u_lay at hlay
  rw [if_pos hfin] at hlay
  have hst := (u_facts hfc hkC (u_lays hts hin' hk) hi).1
  have hcf : m.cls = cf := by
    obtain ⟨_, _, c', _, _, _, -, -, hf', -, -, -, hown2, -⟩ := Cond.laysFinal_spec hlay
    have e1 : c' = cf := by have := hi.symm.trans hf'; simp at this; exact this.1.symm
    rw [hdecl] at hown2
    rw [← e1]; exact Option.some.inj (hown.symm.trans hown2)
  have h6 := u_fits hfc hkC hkind (Or.inr hlay) hi hd1 hn hfit
  refine W.putFinK F.1 F.2.1 hown (hts _ (List.mem_cons_of_mem _ (hz_inT hlink rfl))) hi hst hcf (F.2.2.2.2.2.2.2.1.trans hin2) (by rw [q2]; exact h6) q1 q3 (by rw [hsl]; exact k2_hasslot (q4 k hk)) rfl rfl hd fun H' e1 e2 e3 => ?_
  rw [hsl] at e1 ⊢
  refine kk p e s m args below meth c H' _ ls F hzq (hwd.put hw ha hz ?_ trivial e2 e3) (hS.put e2 e3 (hz_adA hw ha)) hl
  refine ⟨_, hc, t_OB.to (V := updV (vp_V (fs.map (hz_rv κ))) k (hz_rv κ v)) ⟨_, e1, q2, q3, t_set q4 hap hk (hz_rv κ v)⟩ (fun j _ => ?_)⟩
  show _ = vp_V ((fs.set k v).map (hz_rv κ)) j
  rw [List.map_set]
  exact vp_updV_set (by rw [List.length_map]; exact hlen) (hz_rv κ v) j
end HQdv
section HQdw
variable {κ : hz_C} {x : hz_X} {d mc ms : Nat} {P : hz_P} {cn sn pc : Nat} {lo : List (Nat × Value)} {st : List Value} {z : Nat} {M : hz_M}
theorem hq_obj {a idx : Nat} (hd : decode x.2.1 pc = .ok (.invokespecial idx, 3)) (hlk : Cond.methodLink x.1.cls idx objectInit ∈ lw_tbl) (hd1 : 1 ≤ d) (hsum : (st.map fun v => v.category).sum ≤ 8) (kk : hq_W κ x d mc ms P cn sn (pc + 3) lo st z M) : hq_W κ x d mc ms P cn sn pc lo (.ref a :: st) z M := by
  intro p e s m args below meth c H locs ls F hzq hwd hS hl
  have hts : ∀ w ∈ hz_ws x, w.before args s = true := F.2.2.2.2.1
  refine W.objInit F.1 F.2.1 F.2.2.2.1 (hts _ (List.mem_cons_of_mem _ (hz_inT hlk rfl))) (hts _ (List.mem_cons_of_mem _ (hz_inT obj_im rfl))) (hts _ (List.mem_cons_of_mem _ (hz_inT obj_cd rfl))) rfl (by rw [F.2.2.1]; exact hl.1) rfl hd ?_ ?_ (kk p e s m args below meth c H locs ls F hzq hwd hS hl)
  · show _ ≤ d
    omega
  · have q := lv_room (m := m) (pc := pc) (ls := ls) (rest := (Value.ref a :: st).map (hz_rv κ)) (hz_stm (κ := κ) hsum)
    show _ ≤ 48 * d
    omega
theorem hq_aast {a v j n : Nat} {f : Nat → Option Nat} {vs : List Value} (hd : decode x.2.1 pc = .ok (.aastore, 1)) (hM : M a = .inl (4, n, .inr (.inr (.inr (.inr f))))) (ha : 8 ≤ a) (hz : a < z) (hV : M v = .inr (6, vs)) (hv8 : 8 ≤ v) (hvz : v < z) (hj : j < n) (hn : n < 2 ^ 31) (kk : hq_W κ x d mc ms P cn sn (pc + 1) lo st z (va_up M a (.inl (4, n, .inr (.inr (.inr (.inr (va_up f j (some v))))))))) : hq_W κ x d mc ms P cn sn pc lo (.ref v :: .int (nI j) :: .ref a :: st) z M := by
  intro p e s m args below meth c H locs ls F hzq hwd hS hl
  have hw := F.2.2.2.2.2.2.2.2.1
  have hK := F.2.2.2.2.2.2.2.2.2.1
  obtain ⟨hin, eJ⟩ := hz_vin (i := nI j) rfl hj hn
  have hPa := (hwd.2.2.2 a ha hz).1
  rw [hM] at hPa
  have hPv := (hwd.2.2.2 v hv8 hvz).1
  rw [hV] at hPv
  obtain ⟨r1, hr1, cellV, g1, g2, g3, -⟩ := hPv
  have hc6 : hz_kl[6]? = some (RX6, TX6, 14) := rfl
  have hr6 : r1 = (RX6, TX6, 14) := Option.some.inj (hr1.symm.trans hc6)
  subst hr6
  have hcls := (hK.1 6 _ hc6).2
  obtain ⟨kA, comp, k1, k2, k3, -⟩ := (hK.2 4 (κ.2.2.1 4, .object "ChainHouse$Node") rfl).2
  have hcomp : comp = κ.2.1.1 6 := Option.some.inj (k3.symm.trans hcls.1)
  subst hcomp
  obtain ⟨kC, hkC, -⟩ := hcls.2
  refine W.aast F.1 F.2.1 hPa (fun q h => by cases h) (fun h => by cases h) k1 k2 rfl hkC ⟨fun q => hin (Or.inl q), by show _ < (arrV _ _ _).slots.size; rw [arrV_size, eJ]; exact hj⟩ g1 (fun q h => by rw [g3] at h; cases h) (by rw [g2]; exact hkC) (by rw [g2]; exact va_assign hcls) rfl rfl hd fun H1 e1 z1 oq => ?_
  refine kk p e s m args below meth c H1 _ ls F hzq (hwd.put hw ha hz ?_ trivial z1 oq) (hS.put z1 oq (hz_adA hw ha)) hl
  show H1[κ.2.2.2.1 a]? = some (vp_cell (κ.2.2.1 4) (n, .inr (.inr (.inr (.inr (fun q => ((va_up f j (some v)) q).map κ.2.2.2.1))))))
  rw [e1]
  rw [vp_cell_q, vp_cell_q, arrV_store, eJ]
  congr 2
  funext q
  by_cases hq : q = j
  · subst hq
    simp [updV, va_up, va_rf, hz_rv]
  · simp [updV, va_up, hq]
end HQdw
section HQe3
variable {κ : hz_C} {x : hz_X} {d mc ms : Nat} {P : hz_P} {cn sn pc : Nat} {lo : List (Nat × Value)} {st : List Value} {z : Nat} {M : hz_M}
theorem hq_nI {n : Nat} (hd : decode x.2.1 pc = .ok (.newarray .int, 2)) (hn : n < 67108864) (hc : cn + 1 ≤ mc) (hs : sn + n ≤ ms) (kk : hq_W κ x d mc ms P (cn + 1) (sn + n) (pc + 2) lo (.ref z :: st) (z + 1) (va_up M z (.inl (0, n, .inl (fun _ => 0))))) : hq_W κ x d mc ms P cn sn pc lo (.int (nI n) :: st) z M := hq_newa (t := 0) (g := .inl (fun _ => 0)) hd ar_I rfl rfl (fun _ => rfl) trivial (by omega) (by show n * 4 ≤ 536870912; omega) hc hs kk
theorem hq_nB {n : Nat} (hd : decode x.2.1 pc = .ok (.newarray .byte, 2)) (hn : n < 67108864) (hc : cn + 1 ≤ mc) (hs : sn + n ≤ ms) (kk : hq_W κ x d mc ms P (cn + 1) (sn + n) (pc + 2) lo (.ref z :: st) (z + 1) (va_up M z (.inl (1, n, .inl (fun _ => 0))))) : hq_W κ x d mc ms P cn sn pc lo (.int (nI n) :: st) z M := hq_newa (t := 1) (g := .inl (fun _ => 0)) hd ar_B rfl rfl (fun _ => rfl) (show hz_bf (.inl (1, n, .inl (fun _ => 0))) from fun _ _ => rfl) (by omega) (by show n * 1 ≤ 536870912; omega) hc hs kk
theorem hq_nJ {n : Nat} (hd : decode x.2.1 pc = .ok (.newarray .long, 2)) (hn : n < 67108864) (hc : cn + 1 ≤ mc) (hs : sn + n ≤ ms) (kk : hq_W κ x d mc ms P (cn + 1) (sn + n) (pc + 2) lo (.ref z :: st) (z + 1) (va_up M z (.inl (2, n, .inr (.inl (fun _ => 0)))))) : hq_W κ x d mc ms P cn sn pc lo (.int (nI n) :: st) z M := hq_newa (t := 2) (g := .inr (.inl (fun _ => 0))) hd ar_J rfl rfl (fun _ => rfl) trivial (by omega) (by show n * 8 ≤ 536870912; omega) hc hs kk
theorem hq_nZ {n : Nat} (hd : decode x.2.1 pc = .ok (.newarray .boolean, 2)) (hn : n < 67108864) (hc : cn + 1 ≤ mc) (hs : sn + n ≤ ms) (kk : hq_W κ x d mc ms P (cn + 1) (sn + n) (pc + 2) lo (.ref z :: st) (z + 1) (va_up M z (.inl (3, n, .inl (fun _ => 0))))) : hq_W κ x d mc ms P cn sn pc lo (.int (nI n) :: st) z M := hq_newa (t := 3) (g := .inl (fun _ => 0)) hd ar_Z rfl rfl (fun _ => rfl) (show hz_bf (.inl (3, n, .inl (fun _ => 0))) from fun _ _ => Or.inl rfl) (by omega) (by show n * 1 ≤ 536870912; omega) hc hs kk
theorem hq_nX1 {idx : Nat} (hd : decode x.2.1 pc = .ok (.new idx, 3)) (hlk : Cond.classLink x.1.cls idx RX1 ∈ lw_tbl) (hc : cn + 1 ≤ mc) (hs : sn + 8 ≤ ms) (kk : hq_W κ x d mc ms P (cn + 1) (sn + 8) (pc + 3) lo (.ref z :: st) (z + 1) (va_up M z (.inr (1, [.null, .null, .null, .null, .null, .null, .int (nI 0), .null])))) : hq_W κ x d mc ms P cn sn pc lo st z M := hq_new hd (ci := 1) rfl inX1 tyX1 tyX1_ok hlk is_X1 ini_X1 df_X1 rfl hc hs kk
theorem hq_nX2 {idx : Nat} (hd : decode x.2.1 pc = .ok (.new idx, 3)) (hlk : Cond.classLink x.1.cls idx RX2 ∈ lw_tbl) (hc : cn + 1 ≤ mc) (hs : sn + 7 ≤ ms) (kk : hq_W κ x d mc ms P (cn + 1) (sn + 7) (pc + 3) lo (.ref z :: st) (z + 1) (va_up M z (.inr (2, [.int (nI 0), .null, .null, .null, .int (nI 0), .null, .null])))) : hq_W κ x d mc ms P cn sn pc lo st z M := hq_new hd (ci := 2) rfl inX2 tyX2 tyX2_ok hlk is_X2 ini_X2 df_X2 rfl hc hs kk
theorem hq_nX3 {idx : Nat} (hd : decode x.2.1 pc = .ok (.new idx, 3)) (hlk : Cond.classLink x.1.cls idx RX3 ∈ lw_tbl) (hc : cn + 1 ≤ mc) (hs : sn + 11 ≤ ms) (kk : hq_W κ x d mc ms P (cn + 1) (sn + 11) (pc + 3) lo (.ref z :: st) (z + 1) (va_up M z (.inr (3, [.null, .null, .null, .null, .null, .null, .null, .null, .null, .int (nI 0), .long 0])))) : hq_W κ x d mc ms P cn sn pc lo st z M := hq_new hd (ci := 3) rfl inX3 tyX3 tyX3_ok hlk is_X3 ini_X3 df_X3 rfl hc hs kk
theorem hq_nX4 {idx : Nat} (hd : decode x.2.1 pc = .ok (.new idx, 3)) (hlk : Cond.classLink x.1.cls idx RX4 ∈ lw_tbl) (hc : cn + 1 ≤ mc) (hs : sn + 7 ≤ ms) (kk : hq_W κ x d mc ms P (cn + 1) (sn + 7) (pc + 3) lo (.ref z :: st) (z + 1) (va_up M z (.inr (4, [.null, .null, .null, .null, .null, .null, .null])))) : hq_W κ x d mc ms P cn sn pc lo st z M := hq_new hd (ci := 4) rfl inX4 tyX4 tyX4_ok hlk is_X4 ini_X4 df_X4 rfl hc hs kk
theorem hq_nX5 {idx : Nat} (hd : decode x.2.1 pc = .ok (.new idx, 3)) (hlk : Cond.classLink x.1.cls idx RX5 ∈ lw_tbl) (hc : cn + 1 ≤ mc) (hs : sn + 13 ≤ ms) (kk : hq_W κ x d mc ms P (cn + 1) (sn + 13) (pc + 3) lo (.ref z :: st) (z + 1) (va_up M z (.inr (5, [.null, .null, .null, .null, .null, .int (nI 0), .null, .int (nI 0), .int (nI 0), .null, .int (nI 0), .int (nI 0), .int (nI 0)])))) : hq_W κ x d mc ms P cn sn pc lo st z M := hq_new hd (ci := 5) rfl inX5 tyX5 tyX5_ok hlk is_X5 ini_X5 df_X5 rfl hc hs kk
theorem hq_nX6 {idx : Nat} (hd : decode x.2.1 pc = .ok (.new idx, 3)) (hlk : Cond.classLink x.1.cls idx RX6 ∈ lw_tbl) (hc : cn + 1 ≤ mc) (hs : sn + 14 ≤ ms) (kk : hq_W κ x d mc ms P (cn + 1) (sn + 14) (pc + 3) lo (.ref z :: st) (z + 1) (va_up M z (.inr (6, [.int (nI 0), .int (nI 0), .null, .int (nI 0), .int (nI 0), .null, .null, .null, .null, .null, .null, .null, .int (nI 0), .int (nI 0)])))) : hq_W κ x d mc ms P cn sn pc lo st z M := hq_new hd (ci := 6) rfl inX6 tyX6 tyX6_ok hlk is_X6 ini_X6 df_X6 rfl hc hs kk
theorem hq_nX7 {idx : Nat} (hd : decode x.2.1 pc = .ok (.new idx, 3)) (hlk : Cond.classLink x.1.cls idx RX7 ∈ lw_tbl) (hc : cn + 1 ≤ mc) (hs : sn + 3 ≤ ms) (kk : hq_W κ x d mc ms P (cn + 1) (sn + 3) (pc + 3) lo (.ref z :: st) (z + 1) (va_up M z (.inr (7, [.null, .null, .int (nI 0)])))) : hq_W κ x d mc ms P cn sn pc lo st z M := hq_new hd (ci := 7) rfl inX7 tyX7 tyX7_ok hlk is_X7 ini_X7 df_X7 rfl hc hs kk
theorem hq_nX8 {idx : Nat} (hd : decode x.2.1 pc = .ok (.new idx, 3)) (hlk : Cond.classLink x.1.cls idx RX8 ∈ lw_tbl) (hc : cn + 1 ≤ mc) (hs : sn + 3 ≤ ms) (kk : hq_W κ x d mc ms P (cn + 1) (sn + 3) (pc + 3) lo (.ref z :: st) (z + 1) (va_up M z (.inr (8, [.null, .null, .null])))) : hq_W κ x d mc ms P cn sn pc lo st z M := hq_new hd (ci := 8) rfl inX8 tyX8 tyX8_ok hlk is_X8 ini_X8 df_X8 rfl hc hs kk
theorem hq_nX9 {idx : Nat} (hd : decode x.2.1 pc = .ok (.new idx, 3)) (hlk : Cond.classLink x.1.cls idx RX9 ∈ lw_tbl) (hc : cn + 1 ≤ mc) (hs : sn + 5 ≤ ms) (kk : hq_W κ x d mc ms P (cn + 1) (sn + 5) (pc + 3) lo (.ref z :: st) (z + 1) (va_up M z (.inr (9, [.null, .null, .null, .null, .int (nI 0)])))) : hq_W κ x d mc ms P cn sn pc lo st z M := hq_new hd (ci := 9) rfl inX9 tyX9 tyX9_ok hlk is_X9 ini_X9 df_X9 rfl hc hs kk
theorem hq_nX10 {idx : Nat} (hd : decode x.2.1 pc = .ok (.new idx, 3)) (hlk : Cond.classLink x.1.cls idx RX10 ∈ lw_tbl) (hc : cn + 1 ≤ mc) (hs : sn + 12 ≤ ms) (kk : hq_W κ x d mc ms P (cn + 1) (sn + 12) (pc + 3) lo (.ref z :: st) (z + 1) (va_up M z (.inr (10, [.null, .null, .null, .null, .null, .null, .null, .null, .int (nI 0), .null, .null, .null])))) : hq_W κ x d mc ms P cn sn pc lo st z M := hq_new hd (ci := 10) rfl inX10 tyX10 tyX10_ok hlk is_X10 ini_X10 df_X10 rfl hc hs kk
theorem hq_nX11 {idx : Nat} (hd : decode x.2.1 pc = .ok (.new idx, 3)) (hlk : Cond.classLink x.1.cls idx RX11 ∈ lw_tbl) (hc : cn + 1 ≤ mc) (hs : sn + 13 ≤ ms) (kk : hq_W κ x d mc ms P (cn + 1) (sn + 13) (pc + 3) lo (.ref z :: st) (z + 1) (va_up M z (.inr (11, [.null, .null, .null, .null, .null, .null, .null, .null, .int (nI 0), .int (nI 0), .null, .null, .null])))) : hq_W κ x d mc ms P cn sn pc lo st z M := hq_new hd (ci := 11) rfl inX11 tyX11 tyX11_ok hlk is_X11 ini_X11 df_X11 rfl hc hs kk
theorem hq_nX12 {idx : Nat} (hd : decode x.2.1 pc = .ok (.new idx, 3)) (hlk : Cond.classLink x.1.cls idx RX12 ∈ lw_tbl) (hc : cn + 1 ≤ mc) (hs : sn + 106 ≤ ms) (kk : hq_W κ x d mc ms P (cn + 1) (sn + 106) (pc + 3) lo (.ref z :: st) (z + 1) (va_up M z (.inr (12, [.int (nI 0), .int (nI 0), .null, .null, .null, .null, .null, .null, .null, .null, .null, .null, .null, .null, .null, .null, .int (nI 0), .null, .null, .null, .null, .null, .null, .null, .null, .null, .null, .null, .null, .null, .null, .null, .null, .null, .null, .null, .null, .int (nI 0), .null, .int (nI 0), .null, .null, .null, .null, .null, .null, .null, .null, .null, .null, .null, .null, .null, .int (nI 0), .int (nI 0), .int (nI 0), .null, .null, .null, .long 0, .null, .int (nI 0), .null, .null, .null, .null, .null, .null, .null, .null, .null, .null, .null, .null, .null, .null, .null, .null, .null, .null, .null, .null, .null, .null, .null, .null, .int (nI 0), .int (nI 0), .int (nI 0), .int (nI 0), .null, .null, .int (nI 0), .null, .null, .int (nI 0), .int (nI 0), .null, .null, .null, .int (nI 0), .null, .null, .int (nI 0), .null, .null])))) : hq_W κ x d mc ms P cn sn pc lo st z M := hq_new hd (ci := 12) rfl inX12 tyX12 tyX12_ok hlk is_X12 ini_X12 df_X12 rfl hc hs kk
end HQe3
