/-! the law's own walk -/
def lz_F (κ : hz_C) (p : Program) (s : State) (m : MethodId) (meth : Method) (c : Code) (bb_ L : Nat) (xs : Nat → Int32) : Prop := lw_At p s m meth c bb_ L xs ∧ hz_kw κ ∧ va_K κ.2.1 hz_kl (hz_tys κ) s ∧ hz_Z κ s s.heap ∧ κ.2.2.2.2 = s.heap.size
def lz_W (κ : hz_C) (bb_ L : Nat) (xs : Nat → Int32) (cn sn pc : Nat) (lo : List (Nat × Value)) (st : List Value) (z : Nat) (M : hz_M) : Prop :=
  ∀ (p : Program) (e : Env) (s : State) (m : MethodId) (below : List Frame) (meth : Method) (c : Code) (H : Heap) (locs : List Loc) (ls : Array Slot),
    lz_F κ p s m meth c bb_ L xs → hz_wd κ M z H → va_S (hz_A κ) s.heap H locs → lv_has ls 4 ((0, .ref bb_) :: lo.map (fun q => (q.1, hz_rv κ q.2))) →
    W p κ.1 e room_1 s m #[Value.ref bb_] below meth c H locs cn sn (lw_Z below #[Value.ref bb_] s) (F0 m pc ls (st.map (hz_rv κ)))
section LZ
variable {κ : hz_C} {bb_ L : Nat} {xs : Nat → Int32} {cn sn pc : Nat} {lo : List (Nat × Value)} {st : List Value} {z : Nat} {M : hz_M}
theorem lz_nA {p : Program} {s : State} {m : MethodId} {meth : Method} {c : Code} (F : lz_F κ p s m meth c bb_ L xs) : ¬ hz_A κ bb_ := by
  have h1 := F.2.2.2.2
  have h2 : bb_ < s.heap.size := F.1.2.2.2.2.2.2.2.1
  unfold hz_A
  omega
theorem lz_iadd {a b : Int32} (hd : decode code pc = .ok (.iadd, 1)) (k : lz_W κ bb_ L xs cn sn (pc + 1) lo (.int (a + b) :: st) z M) : lz_W κ bb_ L xs cn sn (pc) lo (.int b :: .int a :: st) z M :=
  fun p e s m below meth c H locs ls F hwd hS hl => lv_iadd F.1.1 F.1.2.1 hd (k p e s m below meth c H locs ls F hwd hS hl)
theorem lz_isub {a b : Int32} (hd : decode code pc = .ok (.isub, 1)) (k : lz_W κ bb_ L xs cn sn (pc + 1) lo (.int (a - b) :: st) z M) : lz_W κ bb_ L xs cn sn (pc) lo (.int b :: .int a :: st) z M :=
  fun p e s m below meth c H locs ls F hwd hS hl => lv_isub F.1.1 F.1.2.1 hd (k p e s m below meth c H locs ls F hwd hS hl)
theorem lz_iand {a b : Int32} (hd : decode code pc = .ok (.iand, 1)) (k : lz_W κ bb_ L xs cn sn (pc + 1) lo (.int (a &&& b) :: st) z M) : lz_W κ bb_ L xs cn sn (pc) lo (.int b :: .int a :: st) z M :=
  fun p e s m below meth c H locs ls F hwd hS hl => lv_iand F.1.1 F.1.2.1 hd (k p e s m below meth c H locs ls F hwd hS hl)
theorem lz_i2l {a : Int32} (hd : decode code pc = .ok (.i2l, 1)) (k : lz_W κ bb_ L xs cn sn (pc + 1) lo (.long a.toInt64 :: st) z M) : lz_W κ bb_ L xs cn sn (pc) lo (.int a :: st) z M :=
  fun p e s m below meth c H locs ls F hwd hS hl => lv_i2l F.1.1 F.1.2.1 hd rfl (k p e s m below meth c H locs ls F hwd hS hl)
theorem lz_lshl {a : Int64} {b : Int32} (hd : decode code pc = .ok (.lshl, 1)) (k : lz_W κ bb_ L xs cn sn (pc + 1) lo (.long (a <<< (b.toInt64 &&& 63)) :: st) z M) : lz_W κ bb_ L xs cn sn (pc) lo (.int b :: .long a :: st) z M :=
  fun p e s m below meth c H locs ls F hwd hS hl => lv_lshl F.1.1 F.1.2.1 hd rfl (k p e s m below meth c H locs ls F hwd hS hl)
theorem lz_land {a b : Int64} (hd : decode code pc = .ok (.land, 1)) (k : lz_W κ bb_ L xs cn sn (pc + 1) lo (.long (a &&& b) :: st) z M) : lz_W κ bb_ L xs cn sn (pc) lo (.long b :: .long a :: st) z M :=
  fun p e s m below meth c H locs ls F hwd hS hl => lv_land F.1.1 F.1.2.1 hd (k p e s m below meth c H locs ls F hwd hS hl)
theorem lz_lor {a b : Int64} (hd : decode code pc = .ok (.lor, 1)) (k : lz_W κ bb_ L xs cn sn (pc + 1) lo (.long (a ||| b) :: st) z M) : lz_W κ bb_ L xs cn sn (pc) lo (.long b :: .long a :: st) z M :=
  fun p e s m below meth c H locs ls F hwd hS hl => lv_lor F.1.1 F.1.2.1 hd (k p e s m below meth c H locs ls F hwd hS hl)
theorem lz_lcmp {a b : Int64} (hd : decode code pc = .ok (.lcmp, 1)) (k : lz_W κ bb_ L xs cn sn (pc + 1) lo (.int (lg_cmp a b) :: st) z M) : lz_W κ bb_ L xs cn sn (pc) lo (.long b :: .long a :: st) z M :=
  fun p e s m below meth c H locs ls F hwd hS hl => W.lcmp F.1.1 F.1.2.1 hd (k p e s m below meth c H locs ls F hwd hS hl)
theorem lz_iconst {n : Int} {v : Int32} (hd : decode code pc = .ok (.iconst n, 1)) (hv : Int32.ofInt n = v) (k : lz_W κ bb_ L xs cn sn (pc + 1) lo (.int v :: st) z M) : lz_W κ bb_ L xs cn sn (pc) lo (st) z M :=
  fun p e s m below meth c H locs ls F hwd hS hl => lv_iconst F.1.1 F.1.2.1 hd hv (k p e s m below meth c H locs ls F hwd hS hl)
theorem lz_bipush {n : Int} {v : Int32} (hd : decode code pc = .ok (.bipush n, 2)) (hv : (Int8.ofInt n).toInt32 = v) (k : lz_W κ bb_ L xs cn sn (pc + 2) lo (.int v :: st) z M) : lz_W κ bb_ L xs cn sn (pc) lo (st) z M :=
  fun p e s m below meth c H locs ls F hwd hS hl => lv_bipush F.1.1 F.1.2.1 hd hv (k p e s m below meth c H locs ls F hwd hS hl)
theorem lz_ldc2 {idx : Nat} {v : Int64} (hd : decode code pc = .ok (.ldc2_w idx, 3)) (hc : Cond.constantLong R_law idx v ∈ lw_tbl) (k : lz_W κ bb_ L xs cn sn (pc + 3) lo (.long v :: st) z M) : lz_W κ bb_ L xs cn sn (pc) lo (st) z M :=
  fun p e s m below meth c H locs ls F hwd hS hl => lv_ldc2 F.1.1 F.1.2.1 F.1.2.2.2.2.1 (F.1.2.2.2.2.2.1 _ hc) hd (k p e s m below meth c H locs ls F hwd hS hl)
theorem lz_dup {v : Value} (hd : decode code pc = .ok (.dup, 1)) (hv : v.category = 1) (k : lz_W κ bb_ L xs cn sn (pc + 1) lo (v :: v :: st) z M) : lz_W κ bb_ L xs cn sn (pc) lo (v :: st) z M :=
  fun p e s m below meth c H locs ls F hwd hS hl => lv_dup F.1.1 F.1.2.1 hd ((hz_cat κ v).trans hv) (k p e s m below meth c H locs ls F hwd hS hl)
theorem lz_iloadn {i : Fin 4} {v : Int32} (j : Nat) (hd : decode code pc = .ok (.iload_n i, 1)) (hj : lo[j]? = some ((i : Nat), .int v)) (k : lz_W κ bb_ L xs cn sn (pc + 1) lo (.int v :: st) z M) : lz_W κ bb_ L xs cn sn (pc) lo (st) z M :=
  fun p e s m below meth c H locs ls F hwd hS hl => lv_iload_n F.1.1 F.1.2.1 hd rfl (lv_at hl (j + 1) (hz_lat hj)) (k p e s m below meth c H locs ls F hwd hS hl)
theorem lz_aloadn {i : Fin 4} {v : Nat} (j : Nat) (hd : decode code pc = .ok (.aload_n i, 1)) (hj : lo[j]? = some ((i : Nat), .ref v)) (k : lz_W κ bb_ L xs cn sn (pc + 1) lo (.ref v :: st) z M) : lz_W κ bb_ L xs cn sn (pc) lo (st) z M :=
  fun p e s m below meth c H locs ls F hwd hS hl => lv_aload_n F.1.1 F.1.2.1 hd rfl (lv_at hl (j + 1) (hz_lat hj)) (k p e s m below meth c H locs ls F hwd hS hl)
theorem lz_if_eq {a : Int32} {off : Int} {tgt : Nat} (hd : decode code pc = .ok (.ifCond .eq off, 3)) (ht : (pc : Int) + off = (tgt : Int)) (kt : a = 0 → lz_W κ bb_ L xs cn sn (tgt) lo (st) z M) (kf : ¬ a = 0 → lz_W κ bb_ L xs cn sn (pc + 3) lo (st) z M) : lz_W κ bb_ L xs cn sn (pc) lo (.int a :: st) z M :=
  fun p e s m below meth c H locs ls F hwd hS hl => lv_if_eq F.1.1 F.1.2.1 hd ht (fun q => kt q p e s m below meth c H locs ls F hwd hS hl) (fun q => kf q p e s m below meth c H locs ls F hwd hS hl)
theorem lz_icmp_eq {a b : Int32} {off : Int} {tgt : Nat} (hd : decode code pc = .ok (.if_icmp .eq off, 3)) (ht : (pc : Int) + off = (tgt : Int)) (kt : a = b → lz_W κ bb_ L xs cn sn (tgt) lo (st) z M) (kf : ¬ a = b → lz_W κ bb_ L xs cn sn (pc + 3) lo (st) z M) : lz_W κ bb_ L xs cn sn (pc) lo (.int b :: .int a :: st) z M :=
  fun p e s m below meth c H locs ls F hwd hS hl => lv_icmp_eq F.1.1 F.1.2.1 hd ht (fun q => kt q p e s m below meth c H locs ls F hwd hS hl) (fun q => kf q p e s m below meth c H locs ls F hwd hS hl)
theorem lz_icmp_gt {a b : Int32} {off : Int} {tgt : Nat} (hd : decode code pc = .ok (.if_icmp .gt off, 3)) (ht : (pc : Int) + off = (tgt : Int)) (kt : b < a → lz_W κ bb_ L xs cn sn (tgt) lo (st) z M) (kf : ¬ b < a → lz_W κ bb_ L xs cn sn (pc + 3) lo (st) z M) : lz_W κ bb_ L xs cn sn (pc) lo (.int b :: .int a :: st) z M :=
  fun p e s m below meth c H locs ls F hwd hS hl => lv_icmp_gt F.1.1 F.1.2.1 hd ht (fun q => kt q p e s m below meth c H locs ls F hwd hS hl) (fun q => kf q p e s m below meth c H locs ls F hwd hS hl)
theorem lz_goto {off : Int} {tgt : Nat} (hd : decode code pc = .ok (.goto off, 3)) (ht : (pc : Int) + off = (tgt : Int)) (k : lz_W κ bb_ L xs cn sn (tgt) lo (st) z M) : lz_W κ bb_ L xs cn sn (pc) lo (st) z M :=
  fun p e s m below meth c H locs ls F hwd hS hl => lv_goto F.1.1 F.1.2.1 hd ht (k p e s m below meth c H locs ls F hwd hS hl)
theorem lz_swIn {dflt lo0 hi0 : Int} {offs : Array Int} {len : Nat} {a : Int32} {off : Int} {tgt : Nat} (hd : decode code pc = .ok (.tableswitch dflt lo0 hi0 offs, len)) (h1 : ¬ a.toInt < lo0) (h2 : ¬ hi0 < a.toInt) (ho : offs[(a.toInt - lo0).toNat]? = some off) (ht : (pc : Int) + off = (tgt : Int)) (k : lz_W κ bb_ L xs cn sn (tgt) lo (st) z M) : lz_W κ bb_ L xs cn sn (pc) lo (.int a :: st) z M :=
  fun p e s m below meth c H locs ls F hwd hS hl => lv_tableIn F.1.1 F.1.2.1 hd h1 h2 ho ht (k p e s m below meth c H locs ls F hwd hS hl)
theorem lz_swOut {dflt lo0 hi0 : Int} {offs : Array Int} {len : Nat} {a : Int32} {tgt : Nat} (hd : decode code pc = .ok (.tableswitch dflt lo0 hi0 offs, len)) (h : a.toInt < lo0 ∨ hi0 < a.toInt) (ht : (pc : Int) + dflt = (tgt : Int)) (k : lz_W κ bb_ L xs cn sn (tgt) lo (st) z M) : lz_W κ bb_ L xs cn sn (pc) lo (.int a :: st) z M :=
  fun p e s m below meth c H locs ls F hwd hS hl => lv_tableOut F.1.1 F.1.2.1 hd h ht (k p e s m below meth c H locs ls F hwd hS hl)
theorem lz_st {ls : Array Slot} {i : Nat} {v : Value} (hi : ¬ i = 0) (h : lv_has ls 4 ((i, hz_rv κ v) :: ((0, Value.ref bb_) :: lo.map (fun q => (q.1, hz_rv κ q.2))).filter (fun q => !(q.1 == i) && !(q.1 + 1 == i && q.2.category == 2)))) : lv_has ls 4 ((0, Value.ref bb_) :: ((i, v) :: lo.filter (fun q => !(q.1 == i) && !(q.1 + 1 == i && q.2.category == 2))).map (fun q => (q.1, hz_rv κ q.2))) := by
  refine ⟨h.1, h.2.1, fun q hq => h.2.2 q ?_⟩
  rcases List.mem_cons.mp hq with e | hq2
  · rw [e]
    refine List.mem_cons_of_mem _ (List.mem_filter.mpr ⟨List.mem_cons_self, ?_⟩)
    show (!(0 == i) && !(0 + 1 == i && (Value.ref bb_).category == 2)) = true
    have e1 : (0 == i) = false := beq_eq_false_iff_ne.mpr (fun c => hi c.symm)
    have e2 : ((Value.ref bb_).category == 2) = false := rfl
    rw [e1, e2, Bool.and_false]
    rfl
  · rcases List.mem_cons.mp hq2 with e | hq3
    · rw [e]; exact List.mem_cons_self
    · rw [← hz_fil1] at hq3
      have hm := List.mem_filter.mp hq3
      exact List.mem_cons_of_mem _ (List.mem_filter.mpr ⟨List.mem_cons_of_mem _ hm.1, hm.2⟩)
theorem lz_istoren {kk : Fin 4} {i : Nat} {v : Int32} {lo2 : List (Nat × Value)} (hd : decode code pc = .ok (.istore_n kk, 1)) (hi : (kk : Nat) = i) (h0 : ¬ i = 0) (hn : i < 4) (hlo : (i, Value.int v) :: lo.filter (fun q => !(q.1 == i) && !(q.1 + 1 == i && q.2.category == 2)) = lo2) (k : lz_W κ bb_ L xs cn sn (pc + 1) lo2 (st) z M) : lz_W κ bb_ L xs cn sn (pc) lo (.int v :: st) z M := by
  intro p e s m below meth c H locs ls F hwd hS hl
  subst hlo
  exact lv_istore_n F.1.1 F.1.2.1 hd hi hl hn rfl (fun ls2 hl2 => k p e s m below meth c H locs ls2 F hwd hS (lz_st (v := .int v) h0 hl2))
theorem lz_astoren {kk : Fin 4} {i v : Nat} {lo2 : List (Nat × Value)} (hd : decode code pc = .ok (.astore_n kk, 1)) (hi : (kk : Nat) = i) (h0 : ¬ i = 0) (hn : i < 4) (hlo : (i, Value.ref v) :: lo.filter (fun q => !(q.1 == i) && !(q.1 + 1 == i && q.2.category == 2)) = lo2) (k : lz_W κ bb_ L xs cn sn (pc + 1) lo2 (st) z M) : lz_W κ bb_ L xs cn sn (pc) lo (.ref v :: st) z M := by
  intro p e s m below meth c H locs ls F hwd hS hl
  subst hlo
  exact lv_astore_n F.1.1 F.1.2.1 hd hi hl hn rfl (fun ls2 hl2 => k p e s m below meth c H locs ls2 F hwd hS (lz_st (v := .ref v) h0 hl2))
theorem lz_iinc {i : Nat} {n : Int} {v w : Int32} {lo2 : List (Nat × Value)} (j : Nat) (hd : decode code pc = .ok (.iinc i n, 3)) (hj : lo[j]? = some (i, .int v)) (hv : v + Int32.ofInt n = w) (h0 : ¬ i = 0) (hn : i < 4) (hlo : (i, Value.int w) :: lo.filter (fun q => !(q.1 == i) && !(q.1 + 1 == i && q.2.category == 2)) = lo2) (k : lz_W κ bb_ L xs cn sn (pc + 3) lo2 (st) z M) : lz_W κ bb_ L xs cn sn (pc) lo (st) z M := by
  intro p e s m below meth c H locs ls F hwd hS hl
  subst hlo
  exact lv_iinc (k := j + 1) F.1.1 F.1.2.1 hd hl (hz_lat hj) hv hn rfl (fun ls2 hl2 => k p e s m below meth c H locs ls2 F hwd hS (lz_st (v := .int w) h0 hl2))
theorem lz_pick {lo2 : List (Nat × Value)} (js : List Nat) (h : lv_pick lo js = lo2) (k : lz_W κ bb_ L xs cn sn (pc) lo2 (st) z M) : lz_W κ bb_ L xs cn sn (pc) lo (st) z M := by
  intro p e s m below meth c H locs ls F hwd hS hl
  have hl0 : lv_has ls 4 (lo.map (fun q => (q.1, hz_rv κ q.2))) := ⟨hl.1, hl.2.1, fun q hq => hl.2.2 q (List.mem_cons_of_mem _ hq)⟩
  have hl1 : lv_has ls 4 (lo2.map (fun q => (q.1, hz_rv κ q.2))) := lv_sub hl0 js (by subst h; simp only [lv_pick, List.getElem?_map, List.map_filterMap])
  refine k p e s m below meth c H locs ls F hwd hS ⟨hl.1, hl.2.1, fun q hq => ?_⟩
  rcases List.mem_cons.mp hq with e1 | hq2
  · exact hl.2.2 q (by rw [e1]; exact List.mem_cons_self)
  · exact hl1.2.2 q hq2
/-- script[i + k] -/
theorem lz_sk {i : Nat} {v kv : Int32} {k : Int} (j : Nat) (h0 : decode code pc = .ok (.aload_n 0, 1)) (h1 : decode code (pc + 1) = .ok (.iload_n 3, 1)) (h2 : decode code (pc + 2) = .ok (.iconst k, 1)) (hk : Int32.ofInt k = kv) (h3 : decode code (pc + 3) = .ok (.iadd, 1)) (h4 : decode code (pc + 4) = .ok (.iaload, 1)) (hj : lo[j]? = some (3, .int v)) (hi : v + kv = nI i) (hL : i < L) (hLs : L < 2 ^ 31) (kk : lz_W κ bb_ L xs cn sn (pc + 5) lo (.int (xs i) :: st) z M) : lz_W κ bb_ L xs cn sn pc lo st z M := by
  intro p e s m below meth c H locs ls F hwd hS hl
  obtain ⟨q1, q2⟩ := hz_vin hi hL hLs
  refine lv_aload_n F.1.1 F.1.2.1 h0 rfl (lv_at hl 0 rfl) ?_
  refine lv_iload_n F.1.1 F.1.2.1 h1 rfl (lv_at hl (j + 1) (hz_lat hj)) ?_
  refine lv_iconst F.1.1 F.1.2.1 h2 hk ?_
  refine lv_iadd F.1.1 F.1.2.1 h3 ?_
  refine va_sld F.1.1 F.1.2.1 F.1.2.2.2.2.2.2.1 F.1.2.2.2.2.2.2.2.1 (lz_nA F) hS q1 h4 ?_
  rw [q2]
  exact kk p e s m below meth c H locs ls F hwd hS hl
/-- script[i] -/
theorem lz_s0 {i : Nat} {v : Int32} (j : Nat) (h0 : decode code pc = .ok (.aload_n 0, 1)) (h1 : decode code (pc + 1) = .ok (.iload_n 3, 1)) (h4 : decode code (pc + 2) = .ok (.iaload, 1)) (hj : lo[j]? = some (3, .int v)) (hi : v = nI i) (hL : i < L) (hLs : L < 2 ^ 31) (kk : lz_W κ bb_ L xs cn sn (pc + 3) lo (.int (xs i) :: st) z M) : lz_W κ bb_ L xs cn sn pc lo st z M := by
  intro p e s m below meth c H locs ls F hwd hS hl
  obtain ⟨q1, q2⟩ := hz_vin hi hL hLs
  refine lv_aload_n F.1.1 F.1.2.1 h0 rfl (lv_at hl 0 rfl) ?_
  refine lv_iload_n F.1.1 F.1.2.1 h1 rfl (lv_at hl (j + 1) (hz_lat hj)) ?_
  refine va_sld F.1.1 F.1.2.1 F.1.2.2.2.2.2.2.1 F.1.2.2.2.2.2.2.2.1 (lz_nA F) hS q1 h4 ?_
  rw [q2]
  exact kk p e s m below meth c H locs ls F hwd hS hl
/-- script.length -/
theorem lz_sl (h0 : decode code pc = .ok (.aload_n 0, 1)) (h1 : decode code (pc + 1) = .ok (.arraylength, 1)) (kk : lz_W κ bb_ L xs cn sn (pc + 2) lo (.int (nI L) :: st) z M) : lz_W κ bb_ L xs cn sn pc lo st z M := by
  intro p e s m below meth c H locs ls F hwd hS hl
  refine lv_aload_n F.1.1 F.1.2.1 h0 rfl (lv_at hl 0 rfl) ?_
  exact va_slen F.1.1 F.1.2.1 F.1.2.2.2.2.2.2.1 F.1.2.2.2.2.2.2.2.1 (lz_nA F) hS h1 (kk p e s m below meth c H locs ls F hwd hS hl)
/-- the end: true -/
theorem lz_end (hc : cn ≤ 600000) (hs : sn ≤ 7302250) (hd : decode code pc = .ok (.ireturn, 1)) : lz_W κ bb_ L xs cn sn pc lo [.int 1] z M := by
  intro p e s m below meth c H locs ls F hwd hS hl
  have hb := F.2.2.2.2
  refine va_forget (fun q hq => by have r : hz_A κ q.base := hS.2.2 q hq; unfold hz_A at r; rw [hb] at r; exact r) ?_
  refine W.widen (k := 600000) (n := 7302250) hc hs ?_
  exact lw_ret F.1.1 F.1.2.1 F.1.2.2.1 F.1.2.2.2.2.2.2.2.2.1 hd
theorem lz_good {x2 : hz_X} (h : Cond.code x2.1 x2.2.1 x2.2.2.1 x2.2.2.2 ∈ lw_tbl) : GoodIn lw_tbl (hz_ws x2) := by
  intro w hw
  rcases List.mem_cons.mp hw with rfl | hw
  · exact ⟨h, good_of_word rfl⟩
  · exact ⟨(List.mem_filter.mp hw).1, good_of_word (List.mem_filter.mp hw).2⟩
theorem lz_cb {idx n d2 mc2 ms2 : Nat} {x2 : hz_X} {p : Program} {s : State} {m : MethodId} {meth : Method} {c : Code} (F : lz_F κ p s m meth c bb_ L xs) (hc : hz_co R_law idx x2 n) (hdd : d2 ≤ 1000) : CallB room_1 s #[Value.ref bb_] R_law idx x2.1 x2.2.1 x2.2.2.1 x2.2.2.2 (hz_ws x2) (hz_rm d2 mc2 ms2) mc2 ms2 n := by
  obtain ⟨h1, h2, h3, h4, h5⟩ := hc
  refine callB_of n F.1.2.2.2.2.2.1 (lz_good h2) rfl rfl rfl (F.1.2.2.2.2.2.1 _ h3) (F.1.2.2.2.2.2.1 _ h1) h4 ⟨?_, ?_⟩
  · show d2 + 1 ≤ 2048
    omega
  · show 8 + (x2.2.2.1 + 11) + 48 * d2 ≤ 84000
    omega
theorem lz_pre {As : List Value} {p : Program} {s : State} {m : MethodId} {meth : Method} {c : Code} {H : Heap} {locs : List Loc} (F : lz_F κ p s m meth c bb_ L xs) (hwd : hz_wd κ M z H) (hS : va_S (hz_A κ) s.heap H locs) : ∀ U : State, U.heap = H → s.WarmedH U.vm → hz_Pc κ As z M (As.map (hz_rv κ)).toArray U := by
  intro U hU hW
  exact ⟨rfl, by rw [hU]; exact hwd, va_K.moved hW.alike F.2.2.1, by rw [hU]; exact F.2.2.2.1.warm hW hS.2.1, F.2.1⟩
theorem lz_callV {idx n d2 mc2 ms2 : Nat} {x2 : hz_X} {P2 : hz_P} {As stA : List Value} {a ci : Nat} {fs : List Value} {T : u_T} {N : Nat} (hd : decode code pc = .ok (.invokevirtual idx, 3)) (hc : hz_co R_law idx x2 n) (hi : Cond.instanceMethod x2.1 ∈ lw_tbl) (hs : Cond.selects x2.1.cls x2.1 x2.1 ∈ lw_tbl) (hcl : hz_kl[ci]? = some (x2.1.cls, T, N)) (hMa : M a = .inr (ci, fs)) (ha : 8 ≤ a) (hz : a < z) (hM : hz_Mt κ x2 d2 mc2 ms2 (.ref a :: As) z M P2) (hn : As.length = n) (hdd : d2 ≤ 1000) (hrm : cn + mc2 ≤ 600000 ∧ sn + ms2 ≤ 7302250) (hsum : (st.map fun v => v.category).sum ≤ 8) (hst : As.reverse ++ .ref a :: st = stA)
    (kk : ∀ (r : Option Value) (z2 : Nat) (M2 : hz_M), P2 r z2 M2 → lz_W κ bb_ L xs (cn + mc2) (sn + ms2) (pc + 3) lo (r.toList ++ st) z2 M2) : lz_W κ bb_ L xs cn sn pc lo stA z M := by
  intro p e s m below meth c H locs ls F hwd hS hl
  subst hst
  refine hz_back (rest := st.map (hz_rv κ)) (va_runV (C := x2.1.cls) (b := κ.2.2.2.1 a) (As := As.map (hz_rv κ)) ⟨F.1.1, F.1.2.1, F.1.2.2.2.1, F.1.2.2.2.2.1, F.1.2.2.2.2.2.1⟩ hM ⟨lz_cb F hc hdd, F.1.2.2.2.2.2.1 _ hi, F.1.2.2.2.2.2.1 _ hs⟩ ⟨hz_blind κ (.ref a :: As) z M, va_recv F.2.2.1 (hz_one hwd hMa ha hz) hcl (q0 := 0) rfl, lz_pre F hwd hS⟩ rfl (by rw [List.length_map]; exact hn) hl.1 (by rw [List.map_append, List.map_reverse]; rfl) (lv_room (hz_stm hsum)) hd hrm) hS (fun r z2 M2 H1 locs1 hp hw2 hS2 => ?_)
  rw [← hz_tl]
  exact kk r z2 M2 hp p e s m below meth c H1 locs1 ls F hw2 hS2 hl
theorem lz_callI {idx n d2 mc2 ms2 : Nat} {x2 : hz_X} {P2 : hz_P} {As stA : List Value} {a : Nat} (hd : decode code pc = .ok (.invokespecial idx, 3)) (hc : hz_co R_law idx x2 n) (hi : Cond.instanceMethod x2.1 ∈ lw_tbl) (hnm : x2.1.name = "<init>") (hret : x2.2.2.2 = none) (hM : hz_Mt κ x2 d2 mc2 ms2 (.ref a :: As) z M P2) (hn : As.length = n) (hdd : d2 ≤ 1000) (hrm : cn + mc2 ≤ 600000 ∧ sn + ms2 ≤ 7302250) (hsum : (st.map fun v => v.category).sum ≤ 8) (hst : As.reverse ++ .ref a :: st = stA)
    (kk : ∀ (r : Option Value) (z2 : Nat) (M2 : hz_M), P2 r z2 M2 → lz_W κ bb_ L xs (cn + mc2) (sn + ms2) (pc + 3) lo (r.toList ++ st) z2 M2) : lz_W κ bb_ L xs cn sn pc lo stA z M := by
  intro p e s m below meth c H locs ls F hwd hS hl
  subst hst
  have hcb := lz_cb (mc2 := mc2) (ms2 := ms2) F hc hdd
  rw [hret] at hcb
  refine hz_back (rest := st.map (hz_rv κ)) (va_runI (b := κ.2.2.2.1 a) (As := As.map (hz_rv κ)) ⟨F.1.1, F.1.2.1, F.1.2.2.2.1, F.1.2.2.2.2.1, F.1.2.2.2.2.2.1⟩ hM ⟨hcb, hnm, F.1.2.2.2.2.2.1 _ hi⟩ ⟨hz_blind κ (.ref a :: As) z M, lz_pre F hwd hS⟩ rfl (by rw [List.length_map]; exact hn) hl.1 (by rw [List.map_append, List.map_reverse]; rfl) (lv_room (hz_stm hsum)) hd hrm) hS (fun r z2 M2 H1 locs1 hp hw2 hS2 => ?_)
  rw [← hz_tl]
  exact kk r z2 M2 hp p e s m below meth c H1 locs1 ls F hw2 hS2 hl
end LZ
