section HZ
variable {κ : hz_C} {x : hz_X} {d mc ms : Nat} {P : hz_P} {cn sn pc : Nat} {lo : List (Nat × Value)} {st : List Value} {z : Nat} {M : hz_M}
theorem hz_iadd {a b : Int32} (hd : decode x.2.1 pc = .ok (.iadd, 1)) (k : hz_W κ x d mc ms P cn sn (pc + 1) lo (.int (a + b) :: st) z M) : hz_W κ x d mc ms P cn sn (pc) lo (.int b :: .int a :: st) z M :=
  fun p e s m args below meth c H locs ls F hwd hS hl => lv_iadd F.1 F.2.1 hd (k p e s m args below meth c H locs ls F hwd hS hl)
theorem hz_isub {a b : Int32} (hd : decode x.2.1 pc = .ok (.isub, 1)) (k : hz_W κ x d mc ms P cn sn (pc + 1) lo (.int (a - b) :: st) z M) : hz_W κ x d mc ms P cn sn (pc) lo (.int b :: .int a :: st) z M :=
  fun p e s m args below meth c H locs ls F hwd hS hl => lv_isub F.1 F.2.1 hd (k p e s m args below meth c H locs ls F hwd hS hl)
theorem hz_imul {a b : Int32} (hd : decode x.2.1 pc = .ok (.imul, 1)) (k : hz_W κ x d mc ms P cn sn (pc + 1) lo (.int (a * b) :: st) z M) : hz_W κ x d mc ms P cn sn (pc) lo (.int b :: .int a :: st) z M :=
  fun p e s m args below meth c H locs ls F hwd hS hl => lv_imul F.1 F.2.1 hd (k p e s m args below meth c H locs ls F hwd hS hl)
theorem hz_iand {a b : Int32} (hd : decode x.2.1 pc = .ok (.iand, 1)) (k : hz_W κ x d mc ms P cn sn (pc + 1) lo (.int (a &&& b) :: st) z M) : hz_W κ x d mc ms P cn sn (pc) lo (.int b :: .int a :: st) z M :=
  fun p e s m args below meth c H locs ls F hwd hS hl => lv_iand F.1 F.2.1 hd (k p e s m args below meth c H locs ls F hwd hS hl)
theorem hz_ior {a b : Int32} (hd : decode x.2.1 pc = .ok (.ior, 1)) (k : hz_W κ x d mc ms P cn sn (pc + 1) lo (.int (a ||| b) :: st) z M) : hz_W κ x d mc ms P cn sn (pc) lo (.int b :: .int a :: st) z M :=
  fun p e s m args below meth c H locs ls F hwd hS hl => lv_ior F.1 F.2.1 hd (k p e s m args below meth c H locs ls F hwd hS hl)
theorem hz_ixor {a b : Int32} (hd : decode x.2.1 pc = .ok (.ixor, 1)) (k : hz_W κ x d mc ms P cn sn (pc + 1) lo (.int (a ^^^ b) :: st) z M) : hz_W κ x d mc ms P cn sn (pc) lo (.int b :: .int a :: st) z M :=
  fun p e s m args below meth c H locs ls F hwd hS hl => lv_ixor F.1 F.2.1 hd (k p e s m args below meth c H locs ls F hwd hS hl)
theorem hz_ladd {a b : Int64} (hd : decode x.2.1 pc = .ok (.ladd, 1)) (k : hz_W κ x d mc ms P cn sn (pc + 1) lo (.long (a + b) :: st) z M) : hz_W κ x d mc ms P cn sn (pc) lo (.long b :: .long a :: st) z M :=
  fun p e s m args below meth c H locs ls F hwd hS hl => lv_ladd F.1 F.2.1 hd (k p e s m args below meth c H locs ls F hwd hS hl)
theorem hz_lsub {a b : Int64} (hd : decode x.2.1 pc = .ok (.lsub, 1)) (k : hz_W κ x d mc ms P cn sn (pc + 1) lo (.long (a - b) :: st) z M) : hz_W κ x d mc ms P cn sn (pc) lo (.long b :: .long a :: st) z M :=
  fun p e s m args below meth c H locs ls F hwd hS hl => lv_lsub F.1 F.2.1 hd (k p e s m args below meth c H locs ls F hwd hS hl)
theorem hz_lmul {a b : Int64} (hd : decode x.2.1 pc = .ok (.lmul, 1)) (k : hz_W κ x d mc ms P cn sn (pc + 1) lo (.long (a * b) :: st) z M) : hz_W κ x d mc ms P cn sn (pc) lo (.long b :: .long a :: st) z M :=
  fun p e s m args below meth c H locs ls F hwd hS hl => lv_lmul F.1 F.2.1 hd (k p e s m args below meth c H locs ls F hwd hS hl)
theorem hz_land {a b : Int64} (hd : decode x.2.1 pc = .ok (.land, 1)) (k : hz_W κ x d mc ms P cn sn (pc + 1) lo (.long (a &&& b) :: st) z M) : hz_W κ x d mc ms P cn sn (pc) lo (.long b :: .long a :: st) z M :=
  fun p e s m args below meth c H locs ls F hwd hS hl => lv_land F.1 F.2.1 hd (k p e s m args below meth c H locs ls F hwd hS hl)
theorem hz_lor {a b : Int64} (hd : decode x.2.1 pc = .ok (.lor, 1)) (k : hz_W κ x d mc ms P cn sn (pc + 1) lo (.long (a ||| b) :: st) z M) : hz_W κ x d mc ms P cn sn (pc) lo (.long b :: .long a :: st) z M :=
  fun p e s m args below meth c H locs ls F hwd hS hl => lv_lor F.1 F.2.1 hd (k p e s m args below meth c H locs ls F hwd hS hl)
theorem hz_ishl {a b : Int32} (hd : decode x.2.1 pc = .ok (.ishl, 1)) (k : hz_W κ x d mc ms P cn sn (pc + 1) lo (.int (a <<< (b &&& 31)) :: st) z M) : hz_W κ x d mc ms P cn sn (pc) lo (.int b :: .int a :: st) z M :=
  fun p e s m args below meth c H locs ls F hwd hS hl => lv_ishl F.1 F.2.1 hd (k p e s m args below meth c H locs ls F hwd hS hl)
theorem hz_ishr {a b : Int32} (hd : decode x.2.1 pc = .ok (.ishr, 1)) (k : hz_W κ x d mc ms P cn sn (pc + 1) lo (.int (a >>> (b &&& 31)) :: st) z M) : hz_W κ x d mc ms P cn sn (pc) lo (.int b :: .int a :: st) z M :=
  fun p e s m args below meth c H locs ls F hwd hS hl => lv_ishr F.1 F.2.1 hd (k p e s m args below meth c H locs ls F hwd hS hl)
theorem hz_iushr {a b : Int32} (hd : decode x.2.1 pc = .ok (.iushr, 1)) (k : hz_W κ x d mc ms P cn sn (pc + 1) lo (.int (a.toUInt32 >>> (b.toUInt32 &&& Int32.toUInt32 31)).toInt32 :: st) z M) : hz_W κ x d mc ms P cn sn (pc) lo (.int b :: .int a :: st) z M :=
  fun p e s m args below meth c H locs ls F hwd hS hl => lv_iushr F.1 F.2.1 hd rfl (k p e s m args below meth c H locs ls F hwd hS hl)
theorem hz_lshl {a : Int64} {b : Int32} (hd : decode x.2.1 pc = .ok (.lshl, 1)) (k : hz_W κ x d mc ms P cn sn (pc + 1) lo (.long (a <<< (b.toInt64 &&& 63)) :: st) z M) : hz_W κ x d mc ms P cn sn (pc) lo (.int b :: .long a :: st) z M :=
  fun p e s m args below meth c H locs ls F hwd hS hl => lv_lshl F.1 F.2.1 hd rfl (k p e s m args below meth c H locs ls F hwd hS hl)
theorem hz_lshr {a : Int64} {b : Int32} (hd : decode x.2.1 pc = .ok (.lshr, 1)) (k : hz_W κ x d mc ms P cn sn (pc + 1) lo (.long (a >>> (b.toInt64 &&& 63)) :: st) z M) : hz_W κ x d mc ms P cn sn (pc) lo (.int b :: .long a :: st) z M :=
  fun p e s m args below meth c H locs ls F hwd hS hl => lv_lshr F.1 F.2.1 hd rfl (k p e s m args below meth c H locs ls F hwd hS hl)
theorem hz_lushr {a : Int64} {b : Int32} (hd : decode x.2.1 pc = .ok (.lushr, 1)) (k : hz_W κ x d mc ms P cn sn (pc + 1) lo (.long (a.toUInt64 >>> (b.toInt64.toUInt64 &&& Int64.toUInt64 63)).toInt64 :: st) z M) : hz_W κ x d mc ms P cn sn (pc) lo (.int b :: .long a :: st) z M :=
  fun p e s m args below meth c H locs ls F hwd hS hl => lv_lushr F.1 F.2.1 hd rfl (k p e s m args below meth c H locs ls F hwd hS hl)
theorem hz_i2l {a : Int32} (hd : decode x.2.1 pc = .ok (.i2l, 1)) (k : hz_W κ x d mc ms P cn sn (pc + 1) lo (.long a.toInt64 :: st) z M) : hz_W κ x d mc ms P cn sn (pc) lo (.int a :: st) z M :=
  fun p e s m args below meth c H locs ls F hwd hS hl => lv_i2l F.1 F.2.1 hd rfl (k p e s m args below meth c H locs ls F hwd hS hl)
theorem hz_l2i {a : Int64} (hd : decode x.2.1 pc = .ok (.l2i, 1)) (k : hz_W κ x d mc ms P cn sn (pc + 1) lo (.int a.toInt32 :: st) z M) : hz_W κ x d mc ms P cn sn (pc) lo (.long a :: st) z M :=
  fun p e s m args below meth c H locs ls F hwd hS hl => lv_l2i F.1 F.2.1 hd rfl (k p e s m args below meth c H locs ls F hwd hS hl)
theorem hz_i2b {a : Int32} (hd : decode x.2.1 pc = .ok (.i2b, 1)) (k : hz_W κ x d mc ms P cn sn (pc + 1) lo (.int a.toInt8.toInt32 :: st) z M) : hz_W κ x d mc ms P cn sn (pc) lo (.int a :: st) z M :=
  fun p e s m args below meth c H locs ls F hwd hS hl => lv_i2b F.1 F.2.1 hd rfl (k p e s m args below meth c H locs ls F hwd hS hl)
theorem hz_i2c {a : Int32} (hd : decode x.2.1 pc = .ok (.i2c, 1)) (k : hz_W κ x d mc ms P cn sn (pc + 1) lo (.int (a.toUInt32 % 65536).toInt32 :: st) z M) : hz_W κ x d mc ms P cn sn (pc) lo (.int a :: st) z M :=
  fun p e s m args below meth c H locs ls F hwd hS hl => lv_i2c F.1 F.2.1 hd rfl (k p e s m args below meth c H locs ls F hwd hS hl)
theorem hz_idiv {a b : Int32} (hd : decode x.2.1 pc = .ok (.idiv, 1)) (hne : ¬ b = 0) (k : hz_W κ x d mc ms P cn sn (pc + 1) lo (.int (a / b) :: st) z M) : hz_W κ x d mc ms P cn sn (pc) lo (.int b :: .int a :: st) z M :=
  fun p e s m args below meth c H locs ls F hwd hS hl => lv_idiv F.1 F.2.1 hd hne (k p e s m args below meth c H locs ls F hwd hS hl)
theorem hz_ldiv {a b : Int64} (hd : decode x.2.1 pc = .ok (.ldiv, 1)) (hne : ¬ b = 0) (k : hz_W κ x d mc ms P cn sn (pc + 1) lo (.long (a / b) :: st) z M) : hz_W κ x d mc ms P cn sn (pc) lo (.long b :: .long a :: st) z M :=
  fun p e s m args below meth c H locs ls F hwd hS hl => lv_ldiv F.1 F.2.1 hd hne (k p e s m args below meth c H locs ls F hwd hS hl)
theorem hz_irem {a b : Int32} (hd : decode x.2.1 pc = .ok (.irem, 1)) (hne : ¬ b = 0) (k : hz_W κ x d mc ms P cn sn (pc + 1) lo (.int (a - a / b * b) :: st) z M) : hz_W κ x d mc ms P cn sn (pc) lo (.int b :: .int a :: st) z M :=
  fun p e s m args below meth c H locs ls F hwd hS hl => lv_irem F.1 F.2.1 hd hne (k p e s m args below meth c H locs ls F hwd hS hl)
theorem hz_lrem {a b : Int64} (hd : decode x.2.1 pc = .ok (.lrem, 1)) (hne : ¬ b = 0) (k : hz_W κ x d mc ms P cn sn (pc + 1) lo (.long (a - a / b * b) :: st) z M) : hz_W κ x d mc ms P cn sn (pc) lo (.long b :: .long a :: st) z M :=
  fun p e s m args below meth c H locs ls F hwd hS hl => lv_lrem F.1 F.2.1 hd hne (k p e s m args below meth c H locs ls F hwd hS hl)
theorem hz_lcmp {a b : Int64} (hd : decode x.2.1 pc = .ok (.lcmp, 1)) (k : hz_W κ x d mc ms P cn sn (pc + 1) lo (.int (lg_cmp a b) :: st) z M) : hz_W κ x d mc ms P cn sn (pc) lo (.long b :: .long a :: st) z M :=
  fun p e s m args below meth c H locs ls F hwd hS hl => W.lcmp F.1 F.2.1 hd (k p e s m args below meth c H locs ls F hwd hS hl)
theorem hz_iconst {n : Int} {v : Int32} (hd : decode x.2.1 pc = .ok (.iconst n, 1)) (hv : Int32.ofInt n = v) (k : hz_W κ x d mc ms P cn sn (pc + 1) lo (.int v :: st) z M) : hz_W κ x d mc ms P cn sn (pc) lo (st) z M :=
  fun p e s m args below meth c H locs ls F hwd hS hl => lv_iconst F.1 F.2.1 hd hv (k p e s m args below meth c H locs ls F hwd hS hl)
theorem hz_bipush {n : Int} {v : Int32} (hd : decode x.2.1 pc = .ok (.bipush n, 2)) (hv : (Int8.ofInt n).toInt32 = v) (k : hz_W κ x d mc ms P cn sn (pc + 2) lo (.int v :: st) z M) : hz_W κ x d mc ms P cn sn (pc) lo (st) z M :=
  fun p e s m args below meth c H locs ls F hwd hS hl => lv_bipush F.1 F.2.1 hd hv (k p e s m args below meth c H locs ls F hwd hS hl)
theorem hz_sipush {n : Int} {v : Int32} (hd : decode x.2.1 pc = .ok (.sipush n, 3)) (hv : (Int16.ofInt n).toInt32 = v) (k : hz_W κ x d mc ms P cn sn (pc + 3) lo (.int v :: st) z M) : hz_W κ x d mc ms P cn sn (pc) lo (st) z M :=
  fun p e s m args below meth c H locs ls F hwd hS hl => lv_sipush F.1 F.2.1 hd hv (k p e s m args below meth c H locs ls F hwd hS hl)
theorem hz_lconst {n : Fin 2} {v : Int64} (hd : decode x.2.1 pc = .ok (.lconst n, 1)) (hv : Int64.ofNat (n : Nat) = v) (k : hz_W κ x d mc ms P cn sn (pc + 1) lo (.long v :: st) z M) : hz_W κ x d mc ms P cn sn (pc) lo (st) z M :=
  fun p e s m args below meth c H locs ls F hwd hS hl => lv_lconst F.1 F.2.1 hd hv (k p e s m args below meth c H locs ls F hwd hS hl)
theorem hz_null  (hd : decode x.2.1 pc = .ok (.aconst_null, 1)) (k : hz_W κ x d mc ms P cn sn (pc + 1) lo (.null :: st) z M) : hz_W κ x d mc ms P cn sn (pc) lo (st) z M :=
  fun p e s m args below meth c H locs ls F hwd hS hl => lv_null F.1 F.2.1 hd (k p e s m args below meth c H locs ls F hwd hS hl)
theorem hz_ldc {idx : Nat} {v : Int32} (hd : decode x.2.1 pc = .ok (.ldc idx, 2)) (hc : Cond.constant x.1.cls idx v ∈ lw_tbl) (k : hz_W κ x d mc ms P cn sn (pc + 2) lo (.int v :: st) z M) : hz_W κ x d mc ms P cn sn (pc) lo (st) z M :=
  fun p e s m args below meth c H locs ls F hwd hS hl => lv_ldc F.1 F.2.1 F.2.2.2.1 (F.2.2.2.2.1 _ (List.mem_cons_of_mem _ (hz_inT hc rfl))) hd (k p e s m args below meth c H locs ls F hwd hS hl)
theorem hz_ldcw {idx : Nat} {v : Int32} (hd : decode x.2.1 pc = .ok (.ldc_w idx, 3)) (hc : Cond.constant x.1.cls idx v ∈ lw_tbl) (k : hz_W κ x d mc ms P cn sn (pc + 3) lo (.int v :: st) z M) : hz_W κ x d mc ms P cn sn (pc) lo (st) z M :=
  fun p e s m args below meth c H locs ls F hwd hS hl => lv_ldcw F.1 F.2.1 F.2.2.2.1 (F.2.2.2.2.1 _ (List.mem_cons_of_mem _ (hz_inT hc rfl))) hd (k p e s m args below meth c H locs ls F hwd hS hl)
theorem hz_ldc2 {idx : Nat} {v : Int64} (hd : decode x.2.1 pc = .ok (.ldc2_w idx, 3)) (hc : Cond.constantLong x.1.cls idx v ∈ lw_tbl) (k : hz_W κ x d mc ms P cn sn (pc + 3) lo (.long v :: st) z M) : hz_W κ x d mc ms P cn sn (pc) lo (st) z M :=
  fun p e s m args below meth c H locs ls F hwd hS hl => lv_ldc2 F.1 F.2.1 F.2.2.2.1 (F.2.2.2.2.1 _ (List.mem_cons_of_mem _ (hz_inT hc rfl))) hd (k p e s m args below meth c H locs ls F hwd hS hl)
theorem hz_dup {v : Value} (hd : decode x.2.1 pc = .ok (.dup, 1)) (hv : v.category = 1) (k : hz_W κ x d mc ms P cn sn (pc + 1) lo (v :: v :: st) z M) : hz_W κ x d mc ms P cn sn (pc) lo (v :: st) z M :=
  fun p e s m args below meth c H locs ls F hwd hS hl => lv_dup F.1 F.2.1 hd ((hz_cat κ v).trans hv) (k p e s m args below meth c H locs ls F hwd hS hl)
theorem hz_pop {v : Value} (hd : decode x.2.1 pc = .ok (.pop, 1)) (hv : v.category = 1) (k : hz_W κ x d mc ms P cn sn (pc + 1) lo (st) z M) : hz_W κ x d mc ms P cn sn (pc) lo (v :: st) z M :=
  fun p e s m args below meth c H locs ls F hwd hS hl => lv_pop F.1 F.2.1 hd ((hz_cat κ v).trans hv) (k p e s m args below meth c H locs ls F hwd hS hl)
theorem hz_dup2 {v w : Value} (hd : decode x.2.1 pc = .ok (.dup2, 1)) (hv : v.category = 1) (hw : w.category = 1) (k : hz_W κ x d mc ms P cn sn (pc + 1) lo (v :: w :: v :: w :: st) z M) : hz_W κ x d mc ms P cn sn (pc) lo (v :: w :: st) z M :=
  fun p e s m args below meth c H locs ls F hwd hS hl => lv_dup2_11 F.1 F.2.1 hd ((hz_cat κ v).trans hv) ((hz_cat κ w).trans hw) (k p e s m args below meth c H locs ls F hwd hS hl)
theorem hz_dup2L {v : Value} (hd : decode x.2.1 pc = .ok (.dup2, 1)) (hv : v.category = 2) (k : hz_W κ x d mc ms P cn sn (pc + 1) lo (v :: v :: st) z M) : hz_W κ x d mc ms P cn sn (pc) lo (v :: st) z M :=
  fun p e s m args below meth c H locs ls F hwd hS hl => lv_dup2_2 F.1 F.2.1 hd ((hz_cat κ v).trans hv) (k p e s m args below meth c H locs ls F hwd hS hl)
theorem hz_topi {v : Int32} (k : ∀ y : Int32, y = v → hz_W κ x d mc ms P cn sn (pc) lo (.int y :: st) z M) : hz_W κ x d mc ms P cn sn (pc) lo (.int v :: st) z M := k v rfl
theorem hz_topl {v : Int64} (k : ∀ y : Int64, y = v → hz_W κ x d mc ms P cn sn (pc) lo (.long y :: st) z M) : hz_W κ x d mc ms P cn sn (pc) lo (.long v :: st) z M := k v rfl
theorem hz_eqi {v w : Int32} (h : v = w) (k : hz_W κ x d mc ms P cn sn (pc) lo (.int w :: st) z M) : hz_W κ x d mc ms P cn sn (pc) lo (.int v :: st) z M := h ▸ k
theorem hz_eql {v w : Int64} (h : v = w) (k : hz_W κ x d mc ms P cn sn (pc) lo (.long w :: st) z M) : hz_W κ x d mc ms P cn sn (pc) lo (.long v :: st) z M := h ▸ k
theorem hz_mem {M2 : hz_M} (h : M = M2) (k : hz_W κ x d mc ms P cn sn (pc) lo (st) z M2) : hz_W κ x d mc ms P cn sn (pc) lo (st) z M := h ▸ k
theorem hz_lat {κ : hz_C} {lo : List (Nat × Value)} {j i : Nat} {v : Value} (h : lo[j]? = some (i, v)) : (lo.map (fun q => (q.1, hz_rv κ q.2)))[j]? = some (i, hz_rv κ v) := by rw [List.getElem?_map, h]; rfl
theorem hz_iload {i : Nat} {v : Int32} (j : Nat) (hd : decode x.2.1 pc = .ok (.iload i, 2)) (hj : lo[j]? = some (i, .int v)) (k : hz_W κ x d mc ms P cn sn (pc + 2) lo (.int v :: st) z M) : hz_W κ x d mc ms P cn sn (pc) lo (st) z M :=
  fun p e s m args below meth c H locs ls F hwd hS hl => lv_iload F.1 F.2.1 hd (lv_at hl j (hz_lat hj)) (k p e s m args below meth c H locs ls F hwd hS hl)
theorem hz_iloadn {i : Fin 4} {v : Int32} (j : Nat) (hd : decode x.2.1 pc = .ok (.iload_n i, 1)) (hj : lo[j]? = some ((i : Nat), .int v)) (k : hz_W κ x d mc ms P cn sn (pc + 1) lo (.int v :: st) z M) : hz_W κ x d mc ms P cn sn (pc) lo (st) z M :=
  fun p e s m args below meth c H locs ls F hwd hS hl => lv_iload_n F.1 F.2.1 hd rfl (lv_at hl j (hz_lat hj)) (k p e s m args below meth c H locs ls F hwd hS hl)
theorem hz_lload {i : Nat} {v : Int64} (j : Nat) (hd : decode x.2.1 pc = .ok (.lload i, 2)) (hj : lo[j]? = some (i, .long v)) (k : hz_W κ x d mc ms P cn sn (pc + 2) lo (.long v :: st) z M) : hz_W κ x d mc ms P cn sn (pc) lo (st) z M :=
  fun p e s m args below meth c H locs ls F hwd hS hl => lv_lload F.1 F.2.1 hd (lv_at hl j (hz_lat hj)) (k p e s m args below meth c H locs ls F hwd hS hl)
theorem hz_lloadn {i : Fin 4} {v : Int64} (j : Nat) (hd : decode x.2.1 pc = .ok (.lload_n i, 1)) (hj : lo[j]? = some ((i : Nat), .long v)) (k : hz_W κ x d mc ms P cn sn (pc + 1) lo (.long v :: st) z M) : hz_W κ x d mc ms P cn sn (pc) lo (st) z M :=
  fun p e s m args below meth c H locs ls F hwd hS hl => lv_lload_n F.1 F.2.1 hd rfl (lv_at hl j (hz_lat hj)) (k p e s m args below meth c H locs ls F hwd hS hl)
theorem hz_aload {i : Nat} {v : Nat} (j : Nat) (hd : decode x.2.1 pc = .ok (.aload i, 2)) (hj : lo[j]? = some (i, .ref v)) (k : hz_W κ x d mc ms P cn sn (pc + 2) lo (.ref v :: st) z M) : hz_W κ x d mc ms P cn sn (pc) lo (st) z M :=
  fun p e s m args below meth c H locs ls F hwd hS hl => lv_aload F.1 F.2.1 hd (lv_at hl j (hz_lat hj)) (k p e s m args below meth c H locs ls F hwd hS hl)
theorem hz_aloadn {i : Fin 4} {v : Nat} (j : Nat) (hd : decode x.2.1 pc = .ok (.aload_n i, 1)) (hj : lo[j]? = some ((i : Nat), .ref v)) (k : hz_W κ x d mc ms P cn sn (pc + 1) lo (.ref v :: st) z M) : hz_W κ x d mc ms P cn sn (pc) lo (st) z M :=
  fun p e s m args below meth c H locs ls F hwd hS hl => lv_aload_n F.1 F.2.1 hd rfl (lv_at hl j (hz_lat hj)) (k p e s m args below meth c H locs ls F hwd hS hl)
theorem hz_aloadN {i : Nat} (j : Nat) (hd : decode x.2.1 pc = .ok (.aload i, 2)) (hj : lo[j]? = some (i, .null)) (k : hz_W κ x d mc ms P cn sn (pc + 2) lo (.null :: st) z M) : hz_W κ x d mc ms P cn sn (pc) lo (st) z M :=
  fun p e s m args below meth c H locs ls F hwd hS hl => lv_aloadN F.1 F.2.1 hd (lv_at hl j (hz_lat hj)) (k p e s m args below meth c H locs ls F hwd hS hl)
theorem hz_aloadnN {i : Fin 4} (j : Nat) (hd : decode x.2.1 pc = .ok (.aload_n i, 1)) (hj : lo[j]? = some ((i : Nat), .null)) (k : hz_W κ x d mc ms P cn sn (pc + 1) lo (.null :: st) z M) : hz_W κ x d mc ms P cn sn (pc) lo (st) z M :=
  fun p e s m args below meth c H locs ls F hwd hS hl => lv_aload_nN F.1 F.2.1 hd rfl (lv_at hl j (hz_lat hj)) (k p e s m args below meth c H locs ls F hwd hS hl)
theorem hz_fil1 (κ : hz_C) (i : Nat) (lo : List (Nat × Value)) : (lo.map (fun q => (q.1, hz_rv κ q.2))).filter (fun q => !(q.1 == i) && !(q.1 + 1 == i && q.2.category == 2)) = (lo.filter (fun q => !(q.1 == i) && !(q.1 + 1 == i && q.2.category == 2))).map (fun q => (q.1, hz_rv κ q.2)) := by
  rw [List.filter_map]
  congr 1
  congr 1
  funext q
  simp only [Function.comp, hz_cat]
theorem hz_fil2 (κ : hz_C) (i : Nat) (lo : List (Nat × Value)) : (lo.map (fun q => (q.1, hz_rv κ q.2))).filter (fun q => !(q.1 == i) && (!(q.1 == i + 1) && !(q.1 + 1 == i && q.2.category == 2))) = (lo.filter (fun q => !(q.1 == i) && (!(q.1 == i + 1) && !(q.1 + 1 == i && q.2.category == 2)))).map (fun q => (q.1, hz_rv κ q.2)) := by
  rw [List.filter_map]
  congr 1
  congr 1
  funext q
  simp only [Function.comp, hz_cat]
theorem hz_istore {i : Nat} {v : Int32} {lo2 : List (Nat × Value)} (hd : decode x.2.1 pc = .ok (.istore i, 2)) (hn : i < x.2.2.1) (hlo : (i, Value.int v) :: lo.filter (fun q => !(q.1 == i) && !(q.1 + 1 == i && q.2.category == 2)) = lo2) (k : hz_W κ x d mc ms P cn sn (pc + 2) lo2 (st) z M) : hz_W κ x d mc ms P cn sn (pc) lo (.int v :: st) z M := by
  intro p e s m args below meth c H locs ls F hwd hS hl
  subst hlo
  refine lv_istore F.1 F.2.1 hd hl hn (lv' := ((i, Value.int v) :: lo.filter (fun q => !(q.1 == i) && !(q.1 + 1 == i && q.2.category == 2))).map (fun q => (q.1, hz_rv κ q.2))) ?_ (fun ls2 hl2 => k p e s m args below meth c H locs ls2 F hwd hS hl2)
  rw [hz_fil1]; rfl
theorem hz_istoren {kk : Fin 4} {i : Nat} {v : Int32} {lo2 : List (Nat × Value)} (hd : decode x.2.1 pc = .ok (.istore_n kk, 1)) (hi : (kk : Nat) = i) (hn : i < x.2.2.1) (hlo : (i, Value.int v) :: lo.filter (fun q => !(q.1 == i) && !(q.1 + 1 == i && q.2.category == 2)) = lo2) (k : hz_W κ x d mc ms P cn sn (pc + 1) lo2 (st) z M) : hz_W κ x d mc ms P cn sn (pc) lo (.int v :: st) z M := by
  intro p e s m args below meth c H locs ls F hwd hS hl
  subst hlo
  refine lv_istore_n F.1 F.2.1 hd hi hl hn (lv' := ((i, Value.int v) :: lo.filter (fun q => !(q.1 == i) && !(q.1 + 1 == i && q.2.category == 2))).map (fun q => (q.1, hz_rv κ q.2))) ?_ (fun ls2 hl2 => k p e s m args below meth c H locs ls2 F hwd hS hl2)
  rw [hz_fil1]; rfl
theorem hz_lstore {i : Nat} {v : Int64} {lo2 : List (Nat × Value)} (hd : decode x.2.1 pc = .ok (.lstore i, 2)) (hn : i + 1 < x.2.2.1) (hlo : (i, Value.long v) :: lo.filter (fun q => !(q.1 == i) && (!(q.1 == i + 1) && !(q.1 + 1 == i && q.2.category == 2))) = lo2) (k : hz_W κ x d mc ms P cn sn (pc + 2) lo2 (st) z M) : hz_W κ x d mc ms P cn sn (pc) lo (.long v :: st) z M := by
  intro p e s m args below meth c H locs ls F hwd hS hl
  subst hlo
  refine lv_lstore F.1 F.2.1 hd hl hn (lv' := ((i, Value.long v) :: lo.filter (fun q => !(q.1 == i) && (!(q.1 == i + 1) && !(q.1 + 1 == i && q.2.category == 2)))).map (fun q => (q.1, hz_rv κ q.2))) ?_ (fun ls2 hl2 => k p e s m args below meth c H locs ls2 F hwd hS hl2)
  rw [hz_fil2]; rfl
theorem hz_lstoren {kk : Fin 4} {i : Nat} {v : Int64} {lo2 : List (Nat × Value)} (hd : decode x.2.1 pc = .ok (.lstore_n kk, 1)) (hi : (kk : Nat) = i) (hn : i + 1 < x.2.2.1) (hlo : (i, Value.long v) :: lo.filter (fun q => !(q.1 == i) && (!(q.1 == i + 1) && !(q.1 + 1 == i && q.2.category == 2))) = lo2) (k : hz_W κ x d mc ms P cn sn (pc + 1) lo2 (st) z M) : hz_W κ x d mc ms P cn sn (pc) lo (.long v :: st) z M := by
  intro p e s m args below meth c H locs ls F hwd hS hl
  subst hlo
  refine lv_lstore_n F.1 F.2.1 hd hi hl hn (lv' := ((i, Value.long v) :: lo.filter (fun q => !(q.1 == i) && (!(q.1 == i + 1) && !(q.1 + 1 == i && q.2.category == 2)))).map (fun q => (q.1, hz_rv κ q.2))) ?_ (fun ls2 hl2 => k p e s m args below meth c H locs ls2 F hwd hS hl2)
  rw [hz_fil2]; rfl
theorem hz_astore {i : Nat} {v : Nat} {lo2 : List (Nat × Value)} (hd : decode x.2.1 pc = .ok (.astore i, 2)) (hn : i < x.2.2.1) (hlo : (i, Value.ref v) :: lo.filter (fun q => !(q.1 == i) && !(q.1 + 1 == i && q.2.category == 2)) = lo2) (k : hz_W κ x d mc ms P cn sn (pc + 2) lo2 (st) z M) : hz_W κ x d mc ms P cn sn (pc) lo (.ref v :: st) z M := by
  intro p e s m args below meth c H locs ls F hwd hS hl
  subst hlo
  refine lv_astore F.1 F.2.1 hd hl hn (lv' := ((i, Value.ref v) :: lo.filter (fun q => !(q.1 == i) && !(q.1 + 1 == i && q.2.category == 2))).map (fun q => (q.1, hz_rv κ q.2))) ?_ (fun ls2 hl2 => k p e s m args below meth c H locs ls2 F hwd hS hl2)
  rw [hz_fil1]; rfl
theorem hz_astoren {kk : Fin 4} {i : Nat} {v : Nat} {lo2 : List (Nat × Value)} (hd : decode x.2.1 pc = .ok (.astore_n kk, 1)) (hi : (kk : Nat) = i) (hn : i < x.2.2.1) (hlo : (i, Value.ref v) :: lo.filter (fun q => !(q.1 == i) && !(q.1 + 1 == i && q.2.category == 2)) = lo2) (k : hz_W κ x d mc ms P cn sn (pc + 1) lo2 (st) z M) : hz_W κ x d mc ms P cn sn (pc) lo (.ref v :: st) z M := by
  intro p e s m args below meth c H locs ls F hwd hS hl
  subst hlo
  refine lv_astore_n F.1 F.2.1 hd hi hl hn (lv' := ((i, Value.ref v) :: lo.filter (fun q => !(q.1 == i) && !(q.1 + 1 == i && q.2.category == 2))).map (fun q => (q.1, hz_rv κ q.2))) ?_ (fun ls2 hl2 => k p e s m args below meth c H locs ls2 F hwd hS hl2)
  rw [hz_fil1]; rfl
theorem hz_iinc {i : Nat} {n : Int} {v w : Int32} {lo2 : List (Nat × Value)} (j : Nat) (hd : decode x.2.1 pc = .ok (.iinc i n, 3)) (hj : lo[j]? = some (i, .int v)) (hv : v + Int32.ofInt n = w) (hn : i < x.2.2.1) (hlo : (i, Value.int w) :: lo.filter (fun q => !(q.1 == i) && !(q.1 + 1 == i && q.2.category == 2)) = lo2) (k : hz_W κ x d mc ms P cn sn (pc + 3) lo2 (st) z M) : hz_W κ x d mc ms P cn sn (pc) lo (st) z M := by
  intro p e s m args below meth c H locs ls F hwd hS hl
  subst hlo
  refine lv_iinc F.1 F.2.1 hd hl (hz_lat hj) hv hn (lv' := ((i, Value.int w) :: lo.filter (fun q => !(q.1 == i) && !(q.1 + 1 == i && q.2.category == 2))).map (fun q => (q.1, hz_rv κ q.2))) ?_ (fun ls2 hl2 => k p e s m args below meth c H locs ls2 F hwd hS hl2)
  rw [hz_fil1]; rfl
theorem hz_pick {lo2 : List (Nat × Value)} (js : List Nat) (h : lv_pick lo js = lo2) (k : hz_W κ x d mc ms P cn sn (pc) lo2 (st) z M) : hz_W κ x d mc ms P cn sn (pc) lo (st) z M := by
  intro p e s m args below meth c H locs ls F hwd hS hl
  refine k p e s m args below meth c H locs ls F hwd hS (lv_sub hl js ?_)
  subst h
  simp only [lv_pick, List.getElem?_map, List.map_filterMap]
theorem hz_if_eq {a : Int32} {off : Int} {tgt : Nat} (hd : decode x.2.1 pc = .ok (.ifCond .eq off, 3)) (ht : (pc : Int) + off = (tgt : Int)) (kt : a = 0 → hz_W κ x d mc ms P cn sn (tgt) lo (st) z M) (kf : ¬ a = 0 → hz_W κ x d mc ms P cn sn (pc + 3) lo (st) z M) : hz_W κ x d mc ms P cn sn (pc) lo (.int a :: st) z M :=
  fun p e s m args below meth c H locs ls F hwd hS hl => lv_if_eq F.1 F.2.1 hd ht (fun q => kt q p e s m args below meth c H locs ls F hwd hS hl) (fun q => kf q p e s m args below meth c H locs ls F hwd hS hl)
theorem hz_icmp_eq {a b : Int32} {off : Int} {tgt : Nat} (hd : decode x.2.1 pc = .ok (.if_icmp .eq off, 3)) (ht : (pc : Int) + off = (tgt : Int)) (kt : a = b → hz_W κ x d mc ms P cn sn (tgt) lo (st) z M) (kf : ¬ a = b → hz_W κ x d mc ms P cn sn (pc + 3) lo (st) z M) : hz_W κ x d mc ms P cn sn (pc) lo (.int b :: .int a :: st) z M :=
  fun p e s m args below meth c H locs ls F hwd hS hl => lv_icmp_eq F.1 F.2.1 hd ht (fun q => kt q p e s m args below meth c H locs ls F hwd hS hl) (fun q => kf q p e s m args below meth c H locs ls F hwd hS hl)
theorem hz_if_ne {a : Int32} {off : Int} {tgt : Nat} (hd : decode x.2.1 pc = .ok (.ifCond .ne off, 3)) (ht : (pc : Int) + off = (tgt : Int)) (kt : ¬ a = 0 → hz_W κ x d mc ms P cn sn (tgt) lo (st) z M) (kf : a = 0 → hz_W κ x d mc ms P cn sn (pc + 3) lo (st) z M) : hz_W κ x d mc ms P cn sn (pc) lo (.int a :: st) z M :=
  fun p e s m args below meth c H locs ls F hwd hS hl => lv_if_ne F.1 F.2.1 hd ht (fun q => kt q p e s m args below meth c H locs ls F hwd hS hl) (fun q => kf q p e s m args below meth c H locs ls F hwd hS hl)
theorem hz_icmp_ne {a b : Int32} {off : Int} {tgt : Nat} (hd : decode x.2.1 pc = .ok (.if_icmp .ne off, 3)) (ht : (pc : Int) + off = (tgt : Int)) (kt : ¬ a = b → hz_W κ x d mc ms P cn sn (tgt) lo (st) z M) (kf : a = b → hz_W κ x d mc ms P cn sn (pc + 3) lo (st) z M) : hz_W κ x d mc ms P cn sn (pc) lo (.int b :: .int a :: st) z M :=
  fun p e s m args below meth c H locs ls F hwd hS hl => lv_icmp_ne F.1 F.2.1 hd ht (fun q => kt q p e s m args below meth c H locs ls F hwd hS hl) (fun q => kf q p e s m args below meth c H locs ls F hwd hS hl)
theorem hz_if_lt {a : Int32} {off : Int} {tgt : Nat} (hd : decode x.2.1 pc = .ok (.ifCond .lt off, 3)) (ht : (pc : Int) + off = (tgt : Int)) (kt : a < 0 → hz_W κ x d mc ms P cn sn (tgt) lo (st) z M) (kf : ¬ a < 0 → hz_W κ x d mc ms P cn sn (pc + 3) lo (st) z M) : hz_W κ x d mc ms P cn sn (pc) lo (.int a :: st) z M :=
  fun p e s m args below meth c H locs ls F hwd hS hl => lv_if_lt F.1 F.2.1 hd ht (fun q => kt q p e s m args below meth c H locs ls F hwd hS hl) (fun q => kf q p e s m args below meth c H locs ls F hwd hS hl)
theorem hz_icmp_lt {a b : Int32} {off : Int} {tgt : Nat} (hd : decode x.2.1 pc = .ok (.if_icmp .lt off, 3)) (ht : (pc : Int) + off = (tgt : Int)) (kt : a < b → hz_W κ x d mc ms P cn sn (tgt) lo (st) z M) (kf : ¬ a < b → hz_W κ x d mc ms P cn sn (pc + 3) lo (st) z M) : hz_W κ x d mc ms P cn sn (pc) lo (.int b :: .int a :: st) z M :=
  fun p e s m args below meth c H locs ls F hwd hS hl => lv_icmp_lt F.1 F.2.1 hd ht (fun q => kt q p e s m args below meth c H locs ls F hwd hS hl) (fun q => kf q p e s m args below meth c H locs ls F hwd hS hl)
theorem hz_if_ge {a : Int32} {off : Int} {tgt : Nat} (hd : decode x.2.1 pc = .ok (.ifCond .ge off, 3)) (ht : (pc : Int) + off = (tgt : Int)) (kt : 0 ≤ a → hz_W κ x d mc ms P cn sn (tgt) lo (st) z M) (kf : ¬ 0 ≤ a → hz_W κ x d mc ms P cn sn (pc + 3) lo (st) z M) : hz_W κ x d mc ms P cn sn (pc) lo (.int a :: st) z M :=
  fun p e s m args below meth c H locs ls F hwd hS hl => lv_if_ge F.1 F.2.1 hd ht (fun q => kt q p e s m args below meth c H locs ls F hwd hS hl) (fun q => kf q p e s m args below meth c H locs ls F hwd hS hl)
theorem hz_icmp_ge {a b : Int32} {off : Int} {tgt : Nat} (hd : decode x.2.1 pc = .ok (.if_icmp .ge off, 3)) (ht : (pc : Int) + off = (tgt : Int)) (kt : b ≤ a → hz_W κ x d mc ms P cn sn (tgt) lo (st) z M) (kf : ¬ b ≤ a → hz_W κ x d mc ms P cn sn (pc + 3) lo (st) z M) : hz_W κ x d mc ms P cn sn (pc) lo (.int b :: .int a :: st) z M :=
  fun p e s m args below meth c H locs ls F hwd hS hl => lv_icmp_ge F.1 F.2.1 hd ht (fun q => kt q p e s m args below meth c H locs ls F hwd hS hl) (fun q => kf q p e s m args below meth c H locs ls F hwd hS hl)
theorem hz_if_gt {a : Int32} {off : Int} {tgt : Nat} (hd : decode x.2.1 pc = .ok (.ifCond .gt off, 3)) (ht : (pc : Int) + off = (tgt : Int)) (kt : 0 < a → hz_W κ x d mc ms P cn sn (tgt) lo (st) z M) (kf : ¬ 0 < a → hz_W κ x d mc ms P cn sn (pc + 3) lo (st) z M) : hz_W κ x d mc ms P cn sn (pc) lo (.int a :: st) z M :=
  fun p e s m args below meth c H locs ls F hwd hS hl => lv_if_gt F.1 F.2.1 hd ht (fun q => kt q p e s m args below meth c H locs ls F hwd hS hl) (fun q => kf q p e s m args below meth c H locs ls F hwd hS hl)
theorem hz_icmp_gt {a b : Int32} {off : Int} {tgt : Nat} (hd : decode x.2.1 pc = .ok (.if_icmp .gt off, 3)) (ht : (pc : Int) + off = (tgt : Int)) (kt : b < a → hz_W κ x d mc ms P cn sn (tgt) lo (st) z M) (kf : ¬ b < a → hz_W κ x d mc ms P cn sn (pc + 3) lo (st) z M) : hz_W κ x d mc ms P cn sn (pc) lo (.int b :: .int a :: st) z M :=
  fun p e s m args below meth c H locs ls F hwd hS hl => lv_icmp_gt F.1 F.2.1 hd ht (fun q => kt q p e s m args below meth c H locs ls F hwd hS hl) (fun q => kf q p e s m args below meth c H locs ls F hwd hS hl)
theorem hz_if_le {a : Int32} {off : Int} {tgt : Nat} (hd : decode x.2.1 pc = .ok (.ifCond .le off, 3)) (ht : (pc : Int) + off = (tgt : Int)) (kt : a ≤ 0 → hz_W κ x d mc ms P cn sn (tgt) lo (st) z M) (kf : ¬ a ≤ 0 → hz_W κ x d mc ms P cn sn (pc + 3) lo (st) z M) : hz_W κ x d mc ms P cn sn (pc) lo (.int a :: st) z M :=
  fun p e s m args below meth c H locs ls F hwd hS hl => lv_if_le F.1 F.2.1 hd ht (fun q => kt q p e s m args below meth c H locs ls F hwd hS hl) (fun q => kf q p e s m args below meth c H locs ls F hwd hS hl)
theorem hz_icmp_le {a b : Int32} {off : Int} {tgt : Nat} (hd : decode x.2.1 pc = .ok (.if_icmp .le off, 3)) (ht : (pc : Int) + off = (tgt : Int)) (kt : a ≤ b → hz_W κ x d mc ms P cn sn (tgt) lo (st) z M) (kf : ¬ a ≤ b → hz_W κ x d mc ms P cn sn (pc + 3) lo (st) z M) : hz_W κ x d mc ms P cn sn (pc) lo (.int b :: .int a :: st) z M :=
  fun p e s m args below meth c H locs ls F hwd hS hl => lv_icmp_le F.1 F.2.1 hd ht (fun q => kt q p e s m args below meth c H locs ls F hwd hS hl) (fun q => kf q p e s m args below meth c H locs ls F hwd hS hl)
theorem hz_goto {off : Int} {tgt : Nat} (hd : decode x.2.1 pc = .ok (.goto off, 3)) (ht : (pc : Int) + off = (tgt : Int)) (k : hz_W κ x d mc ms P cn sn (tgt) lo (st) z M) : hz_W κ x d mc ms P cn sn (pc) lo (st) z M :=
  fun p e s m args below meth c H locs ls F hwd hS hl => lv_goto F.1 F.2.1 hd ht (k p e s m args below meth c H locs ls F hwd hS hl)
theorem hz_ifnull {a : Nat} {off : Int} (hd : decode x.2.1 pc = .ok (.ifnull off, 3)) (k : hz_W κ x d mc ms P cn sn (pc + 3) lo (st) z M) : hz_W κ x d mc ms P cn sn (pc) lo (.ref a :: st) z M :=
  fun p e s m args below meth c H locs ls F hwd hS hl => lv_ifnull F.1 F.2.1 hd (k p e s m args below meth c H locs ls F hwd hS hl)
theorem hz_ifnullN {off : Int} {tgt : Nat} (hd : decode x.2.1 pc = .ok (.ifnull off, 3)) (ht : (pc : Int) + off = (tgt : Int)) (k : hz_W κ x d mc ms P cn sn (tgt) lo (st) z M) : hz_W κ x d mc ms P cn sn (pc) lo (.null :: st) z M :=
  fun p e s m args below meth c H locs ls F hwd hS hl => lv_ifnullN F.1 F.2.1 hd ht (k p e s m args below meth c H locs ls F hwd hS hl)
theorem hz_ifnonnull {a : Nat} {off : Int} {tgt : Nat} (hd : decode x.2.1 pc = .ok (.ifnonnull off, 3)) (ht : (pc : Int) + off = (tgt : Int)) (k : hz_W κ x d mc ms P cn sn (tgt) lo (st) z M) : hz_W κ x d mc ms P cn sn (pc) lo (.ref a :: st) z M :=
  fun p e s m args below meth c H locs ls F hwd hS hl => lv_ifnonnull F.1 F.2.1 hd ht (k p e s m args below meth c H locs ls F hwd hS hl)
theorem hz_ifnonnullN {off : Int} (hd : decode x.2.1 pc = .ok (.ifnonnull off, 3)) (k : hz_W κ x d mc ms P cn sn (pc + 3) lo (st) z M) : hz_W κ x d mc ms P cn sn (pc) lo (.null :: st) z M :=
  fun p e s m args below meth c H locs ls F hwd hS hl => lv_ifnonnullN F.1 F.2.1 hd (k p e s m args below meth c H locs ls F hwd hS hl)
theorem hz_swIn {dflt lo0 hi0 : Int} {offs : Array Int} {len : Nat} {a : Int32} {off : Int} {tgt : Nat} (hd : decode x.2.1 pc = .ok (.tableswitch dflt lo0 hi0 offs, len)) (h1 : ¬ a.toInt < lo0) (h2 : ¬ hi0 < a.toInt) (ho : offs[(a.toInt - lo0).toNat]? = some off) (ht : (pc : Int) + off = (tgt : Int)) (k : hz_W κ x d mc ms P cn sn (tgt) lo (st) z M) : hz_W κ x d mc ms P cn sn (pc) lo (.int a :: st) z M :=
  fun p e s m args below meth c H locs ls F hwd hS hl => lv_tableIn F.1 F.2.1 hd h1 h2 ho ht (k p e s m args below meth c H locs ls F hwd hS hl)
theorem hz_swOut {dflt lo0 hi0 : Int} {offs : Array Int} {len : Nat} {a : Int32} {tgt : Nat} (hd : decode x.2.1 pc = .ok (.tableswitch dflt lo0 hi0 offs, len)) (h : a.toInt < lo0 ∨ hi0 < a.toInt) (ht : (pc : Int) + dflt = (tgt : Int)) (k : hz_W κ x d mc ms P cn sn (tgt) lo (st) z M) : hz_W κ x d mc ms P cn sn (pc) lo (.int a :: st) z M :=
  fun p e s m args below meth c H locs ls F hwd hS hl => lv_tableOut F.1 F.2.1 hd h ht (k p e s m args below meth c H locs ls F hwd hS hl)
theorem hz_iret {v : Int32} (hd : decode x.2.1 pc = .ok (.ireturn, 1)) (hr : x.2.2.2 = some .int) (hp : P (some (.int v)) z M) : hz_W κ x d mc ms P mc ms pc lo ([.int v]) z M :=
  fun p e s m args below meth c H locs ls F hwd hS hl => W.iret F.1 F.2.1 (F.2.2.2.2.2.1.trans hr) (fun t ht hW => ⟨⟨some (.int v), z, M, rfl, hp, by rw [ht]; exact hwd⟩, hS.F ht⟩) hS.2.2 hd F.2.2.2.2.2.2.1
theorem hz_zret {v : Int32} {ty : FieldType} (hd : decode x.2.1 pc = .ok (.ireturn, 1)) (hr : x.2.2.2 = some ty) (hn : narrow ty (.int v) = .int v) (hp : P (some (.int v)) z M) : hz_W κ x d mc ms P mc ms pc lo ([.int v]) z M :=
  fun p e s m args below meth c H locs ls F hwd hS hl => W.zret F.1 F.2.1 (F.2.2.2.2.2.1.trans hr) hn (fun t ht hW => ⟨⟨some (.int v), z, M, rfl, hp, by rw [ht]; exact hwd⟩, hS.F ht⟩) hS.2.2 hd F.2.2.2.2.2.2.1
theorem hz_lret {v : Int64} (hd : decode x.2.1 pc = .ok (.lreturn, 1)) (hr : x.2.2.2 = some .long) (hp : P (some (.long v)) z M) : hz_W κ x d mc ms P mc ms pc lo ([.long v]) z M :=
  fun p e s m args below meth c H locs ls F hwd hS hl => W.lret F.1 F.2.1 (F.2.2.2.2.2.1.trans hr) (fun t ht hW => ⟨⟨some (.long v), z, M, rfl, hp, by rw [ht]; exact hwd⟩, hS.F ht⟩) hS.2.2 hd F.2.2.2.2.2.2.1
theorem hz_vret (hd : decode x.2.1 pc = .ok (.return_, 1)) (hr : x.2.2.2 = none) (hp : P none z M) : hz_W κ x d mc ms P mc ms pc lo ([]) z M :=
  fun p e s m args below meth c H locs ls F hwd hS hl => W.vret F.1 F.2.1 (F.2.2.2.2.2.1.trans hr) (fun t ht hW => ⟨⟨none, z, M, rfl, hp, by rw [ht]; exact hwd⟩, hS.F ht⟩) hS.2.2 hd F.2.2.2.2.2.2.1
theorem hz_aret {v : Value} {C : String} (hd : decode x.2.1 pc = .ok (.areturn, 1)) (hr : x.2.2.2 = some (.object C)) (hv : v = .null ∨ ∃ a, v = .ref a) (hp : P (some v) z M) : hz_W κ x d mc ms P mc ms pc lo ([v]) z M :=
  fun p e s m args below meth c H locs ls F hwd hS hl => W.aret F.1 F.2.1 (F.2.2.2.2.2.1.trans hr) (Or.inl ⟨C, rfl⟩) (by rcases hv with rfl | ⟨a, rfl⟩; exact Or.inl rfl; exact Or.inr ⟨_, rfl⟩) (fun t ht hW => ⟨⟨some v, z, M, rfl, hp, by rw [ht]; exact hwd⟩, hS.F ht⟩) hS.2.2 hd F.2.2.2.2.2.2.1
end HZ
