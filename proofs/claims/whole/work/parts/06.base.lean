/-! BASE: one memory M of all cells that the law makes (place k, k < z), a world that holds it, a frame of a method, contracts over memories.
Places 0..3 are the four static int arrays, 4..7 the two texts and their bytes (all old, never written), 8 .. the cells made since the law began, in order. -/
/-- the classes by their numbers; number 0 (Bytes, of which there are no objects) stands for Coins too -/
abbrev hz_kl : List vw_C := [(RX1, TX1, 8), (RX1, TX1, 8), (RX2, TX2, 7), (RX3, TX3, 11), (RX4, TX4, 7), (RX5, TX5, 13), (RX6, TX6, 14), (RX7, TX7, 3), (RX8, TX8, 3), (RX9, TX9, 5), (RX10, TX10, 12), (RX11, TX11, 13), (RX12, TX12, 106)]
abbrev hz_M : Type := Nat → va_E
abbrev hz_C : Type := Launch × va_G × (Nat → ClassId) × (Nat → Nat) × Nat
abbrev hz_P : Type := Option Value → Nat → hz_M → Prop
def hz_rv (κ : hz_C) (v : Value) : Value := match v with
  | .ref a => .ref (κ.2.2.2.1 a)
  | v => v
def hz_re (κ : hz_C) (e : va_E) : va_E := match e with
  | .inl (t, n, .inl f) => .inl (κ.2.2.1 t, n, .inl f)
  | .inl (t, n, .inr (.inl f)) => .inl (κ.2.2.1 t, n, .inr (.inl f))
  | .inl (t, n, .inr (.inr (.inl f))) => .inl (κ.2.2.1 t, n, .inr (.inr (.inl f)))
  | .inl (t, n, .inr (.inr (.inr (.inl f)))) => .inl (κ.2.2.1 t, n, .inr (.inr (.inr (.inl f))))
  | .inl (t, n, .inr (.inr (.inr (.inr f)))) => .inl (κ.2.2.1 t, n, .inr (.inr (.inr (.inr (fun j => (f j).map κ.2.2.2.1)))))
  | .inr (ci, fs) => .inr (ci, fs.map (hz_rv κ))
def hz_A (κ : hz_C) : Nat → Prop := fun q => κ.2.2.2.2 ≤ q
def hz_tys (κ : hz_C) : List (ClassId × FieldType) := [(κ.2.2.1 0, .int), (κ.2.2.1 1, .byte), (κ.2.2.1 2, .long), (κ.2.2.1 3, .boolean), (κ.2.2.1 4, .object "ChainHouse$Node")]
def hz_S0 : List Int32 := [1779033703, -1150833019, 1013904242, -1521486534, 1359893119, -1694144372, 528734635, 1541459225]
def hz_S1 : List Int32 := [1116352408, 1899447441, -1245643825, -373957723, 961987163, 1508970993, -1841331548, -1424204075, -670586216, 310598401, 607225278, 1426881987, 1925078388, -2132889090, -1680079193, -1046744716, -459576895, -272742522, 264347078, 604807628, 770255983, 1249150122, 1555081692, 1996064986, -1740746414, -1473132947, -1341970488, -1084653625, -958395405, -710438585, 113926993, 338241895, 666307205, 773529912, 1294757372, 1396182291, 1695183700, 1986661051, -2117940946, -1838011259, -1564481375, -1474664885, -1035236496, -949202525, -778901479, -694614492, -200395387, 275423344, 430227734, 506948616, 659060556, 883997877, 958139571, 1322822218, 1537002063, 1747873779, 1955562222, 2024104815, -2067236844, -1933114872, -1866530822, -1538233109, -1090935817, -965641998]
def hz_sl (k : Nat) : List Int32 := match k with
  | 0 => hz_S0
  | 1 => hz_S1
  | 2 => [0, 0, 0, 0, 0, 0, 0, 0]
  | _ => [15, 15, 15, 15, 15, 15, 15, 15]
def hz_sn (k : Nat) : Nat := match k with
  | 1 => 64
  | _ => 8
def hz_sf (k : Nat) : Nat → Int32 := fun j => (hz_sl k).getD j 0
def hz_st (k : Nat) : va_E := .inl (0, hz_sn k, .inl (hz_sf k))
def hz_zc (k : Nat) : String × String := match k with
  | 0 => ("ChainHouse$Sha", "START")
  | 1 => ("ChainHouse$Sha", "K")
  | 2 => ("ChainHouse$Keys", "NO_STEPS")
  | _ => ("ChainHouse$Keys", "ALL_STEPS")
def hz_tx0 : String := "6a09e667bb67ae853c6ef372a54ff53a510e527f9b05688c1f83d9ab5be0cd19"
def hz_tx1 : String := "428a2f9871374491b5c0fbcfe9b5dba53956c25b59f111f1923f82a4ab1c5ed5d807aa9812835b01243185be550c7dc372be5d7480deb1fe9bdc06a7c19bf174e49b69c1efbe47860fc19dc6240ca1cc2de92c6f4a7484aa5cb0a9dc76f988da983e5152a831c66db00327c8bf597fc7c6e00bf3d5a7914706ca63511429296727b70a852e1b21384d2c6dfc53380d13650a7354766a0abb81c2c92e92722c85a2bfe8a1a81a664bc24b8b70c76c51a3d192e819d6990624f40e3585106aa07019a4c1161e376c082748774c34b0bcb5391c0cb34ed8aa4a5b9cca4f682e6ff3748f82ee78a5636f84c878148cc7020890befffaa4506cebbef9a3f7c67178f2"
def hz_tb0 : List Int32 := [54, 97, 48, 57, 101, 54, 54, 55, 98, 98, 54, 55, 97, 101, 56, 53, 51, 99, 54, 101, 102, 51, 55, 50, 97, 53, 52, 102, 102, 53, 51, 97, 53, 49, 48, 101, 53, 50, 55, 102, 57, 98, 48, 53, 54, 56, 56, 99, 49, 102, 56, 51, 100, 57, 97, 98, 53, 98, 101, 48, 99, 100, 49, 57]
def hz_tb1 : List Int32 := [52, 50, 56, 97, 50, 102, 57, 56, 55, 49, 51, 55, 52, 52, 57, 49, 98, 53, 99, 48, 102, 98, 99, 102, 101, 57, 98, 53, 100, 98, 97, 53, 51, 57, 53, 54, 99, 50, 53, 98, 53, 57, 102, 49, 49, 49, 102, 49, 57, 50, 51, 102, 56, 50, 97, 52, 97, 98, 49, 99, 53, 101, 100, 53, 100, 56, 48, 55, 97, 97, 57, 56, 49, 50, 56, 51, 53, 98, 48, 49, 50, 52, 51, 49, 56, 53, 98, 101, 53, 53, 48, 99, 55, 100, 99, 51, 55, 50, 98, 101, 53, 100, 55, 52, 56, 48, 100, 101, 98, 49, 102, 101, 57, 98, 100, 99, 48, 54, 97, 55, 99, 49, 57, 98, 102, 49, 55, 52, 101, 52, 57, 98, 54, 57, 99, 49, 101, 102, 98, 101, 52, 55, 56, 54, 48, 102, 99, 49, 57, 100, 99, 54, 50, 52, 48, 99, 97, 49, 99, 99, 50, 100, 101, 57, 50, 99, 54, 102, 52, 97, 55, 52, 56, 52, 97, 97, 53, 99, 98, 48, 97, 57, 100, 99, 55, 54, 102, 57, 56, 56, 100, 97, 57, 56, 51, 101, 53, 49, 53, 50, 97, 56, 51, 49, 99, 54, 54, 100, 98, 48, 48, 51, 50, 55, 99, 56, 98, 102, 53, 57, 55, 102, 99, 55, 99, 54, 101, 48, 48, 98, 102, 51, 100, 53, 97, 55, 57, 49, 52, 55, 48, 54, 99, 97, 54, 51, 53, 49, 49, 52, 50, 57, 50, 57, 54, 55, 50, 55, 98, 55, 48, 97, 56, 53, 50, 101, 49, 98, 50, 49, 51, 56, 52, 100, 50, 99, 54, 100, 102, 99, 53, 51, 51, 56, 48, 100, 49, 51, 54, 53, 48, 97, 55, 51, 53, 52, 55, 54, 54, 97, 48, 97, 98, 98, 56, 49, 99, 50, 99, 57, 50, 101, 57, 50, 55, 50, 50, 99, 56, 53, 97, 50, 98, 102, 101, 56, 97, 49, 97, 56, 49, 97, 54, 54, 52, 98, 99, 50, 52, 98, 56, 98, 55, 48, 99, 55, 54, 99, 53, 49, 97, 51, 100, 49, 57, 50, 101, 56, 49, 57, 100, 54, 57, 57, 48, 54, 50, 52, 102, 52, 48, 101, 51, 53, 56, 53, 49, 48, 54, 97, 97, 48, 55, 48, 49, 57, 97, 52, 99, 49, 49, 54, 49, 101, 51, 55, 54, 99, 48, 56, 50, 55, 52, 56, 55, 55, 52, 99, 51, 52, 98, 48, 98, 99, 98, 53, 51, 57, 49, 99, 48, 99, 98, 51, 52, 101, 100, 56, 97, 97, 52, 97, 53, 98, 57, 99, 99, 97, 52, 102, 54, 56, 50, 101, 54, 102, 102, 51, 55, 52, 56, 102, 56, 50, 101, 101, 55, 56, 97, 53, 54, 51, 54, 102, 56, 52, 99, 56, 55, 56, 49, 52, 56, 99, 99, 55, 48, 50, 48, 56, 57, 48, 98, 101, 102, 102, 102, 97, 97, 52, 53, 48, 54, 99, 101, 98, 98, 101, 102, 57, 97, 51, 102, 55, 99, 54, 55, 49, 55, 56, 102, 50]
/-- what is old and stays: the static arrays, the two texts -/
def hz_Z (κ : hz_C) (U : State) (H : Heap) : Prop :=
  (∀ k, k < 4 → va_Z (hz_zc k).1 (hz_zc k).2 "[I" (.ref (κ.2.2.2.1 k)) (hz_A κ) U H ∧ va_T .int (κ.2.2.2.1 k) (hz_sn k) (fun j => .int (hz_sf k j)) (hz_A κ) U H) ∧
  vk_S 2 [64, 512] [hz_tb0, hz_tb1] (fun i => κ.2.2.2.1 (4 + i)) (fun i => κ.2.2.2.1 (6 + i)) (hz_A κ) U H ∧
  vk_R "ChainHouseModel" 311 hz_tx0 (κ.2.2.2.1 4) U ∧ vk_R "ChainHouseModel" 317 hz_tx1 (κ.2.2.2.1 5) U ∧
  va_Z "java/lang/String" "COMPACT_STRINGS" "Z" (.int 1) (hz_A κ) U H ∧
  (∀ (a : String) (i : Nat) (y : MethodName) (h : String), Cond.methodLinkNest a i y h ∈ lw_tbl → va_Nw (.methodLinkNest a i y h) U) ∧ va_AO "ChainHouse$Node" U
theorem hz_Z.calls {κ : hz_C} {U : State} {H : Heap} (h : hz_Z κ U H) (g : JFrame) (mk : MethodId) (a : Array Value) : hz_Z κ (U.calling g mk a) H :=
  ⟨fun k hk => ⟨(h.1 k hk).1.moved (Vm.Alike.refl U.vm), (h.1 k hk).2.moved (Vm.Alike.refl U.vm)⟩, h.2.1.moved (Vm.Alike.refl U.vm), vk_R.same rfl h.2.2.1, vk_R.same rfl h.2.2.2.1, h.2.2.2.2.1.moved (Vm.Alike.refl U.vm), fun a i y q hq => va_Nw.same rfl rfl (h.2.2.2.2.2.1 a i y q hq), va_AO.moved (Vm.Alike.refl U.vm) h.2.2.2.2.2.2⟩
theorem hz_Z.warm {κ : hz_C} {s U : State} {H : Heap} (h : hz_Z κ s s.heap) (hW : s.WarmedH U.vm) (hq : ∀ a : Nat, a < s.heap.size → ¬ hz_A κ a → H[a]? = s.heap[a]?) : hz_Z κ U H :=
  ⟨fun k hk => ⟨((h.1 k hk).1.kept hq).moved hW.alike, ((h.1 k hk).2.kept hq).moved hW.alike⟩, (h.2.1.kept hq).moved hW.alike, vk_R.warm hW h.2.2.1, vk_R.warm hW h.2.2.2.1, (h.2.2.2.2.1.kept hq).moved hW.alike, fun a i y q hq => va_Nw.warmM hW (h.2.2.2.2.2.1 a i y q hq), va_AO.moved hW.alike h.2.2.2.2.2.2⟩
/-- the places' addresses -/
def hz_kw (κ : hz_C) : Prop := (∀ k, 8 ≤ k → κ.2.2.2.1 k = κ.2.2.2.2 + (k - 8)) ∧ ∀ k, k < 8 → κ.2.2.2.1 k < κ.2.2.2.2
/-- what a cell of bytes or booleans holds is such -/
def hz_bf (e : va_E) : Prop := match e with
  | .inl (1, n, .inl f) => ∀ j, j < n → (f j).toInt8.toInt32 = f j
  | .inl (3, n, .inl f) => ∀ j, j < n → f j = 0 ∨ f j = 1
  | _ => True
/-- the heap holds the memory -/
def hz_wd (κ : hz_C) (M : hz_M) (z : Nat) (H : Heap) : Prop :=
  8 ≤ z ∧ H.size = κ.2.2.2.2 + (z - 8) ∧ (∀ k, k < 4 → M k = hz_st k) ∧ ∀ k, 8 ≤ k → k < z → va_at κ.2.1 hz_kl (κ.2.2.2.1 k, hz_re κ (M k)) H ∧ hz_bf (M k)
def hz_T : List Cond := lw_tbl.filter goodWord
theorem hz_inT {w : Cond} (h : w ∈ lw_tbl) (hg : goodWord w = true) : w ∈ hz_T := List.mem_filter.mpr ⟨h, hg⟩
theorem hz_inU {C : String} {T : u_T} {N : Nat} (h : ∀ w ∈ u_ws C T N, w ∈ lw_tbl) : ∀ w ∈ u_ws C T N, w ∈ hz_T := by
  intro w hw
  refine hz_inT (h w hw) ?_
  obtain ⟨k, -, rfl⟩ := List.mem_map.mp hw
  unfold u_lay
  split <;> rfl
def hz_ws (x : hz_X) : List Cond := Cond.code x.1 x.2.1 x.2.2.1 x.2.2.2 :: hz_T
def hz_rm (d mc ms : Nat) : Room := { frames := d, cells := mc, slots := ms, locals := 48 * d }
def hz_Pc (κ : hz_C) (as : List Value) (z : Nat) (M : hz_M) : Array Value → State → Prop := fun v U => v = (as.map (hz_rv κ)).toArray ∧ hz_wd κ M z U.heap ∧ va_K κ.2.1 hz_kl (hz_tys κ) U ∧ hz_Z κ U U.heap ∧ hz_kw κ
def hz_Q (κ : hz_C) (P : hz_P) : Array Value → State → Outcome → State → Prop := fun _ st oc t => (∃ (r : Option Value) (z : Nat) (M : hz_M), oc = .returned (r.map (hz_rv κ)) ∧ P r z M ∧ hz_wd κ M z t.heap) ∧ va_F (hz_A κ) st t
/-- a contract: from memory M with arguments 'as' the method returns, with P of its answer and the memory behind it -/
def hz_Mt (κ : hz_C) (x : hz_X) (d mc ms : Nat) (as : List Value) (z : Nat) (M : hz_M) (P : hz_P) : Prop :=
  Met κ.1 x.1 (hz_ws x) (hz_rm d mc ms) (hz_Pc κ as z M) (hz_Q κ P) mc ms (hz_A κ)
def hz_fr (κ : hz_C) (x : hz_X) (p : Program) (s : State) (m : MethodId) (args : Array Value) (meth : Method) (c : Code) : Prop :=
  p.tables.exec = Jvm.exec ∧ c.code = x.2.1 ∧ c.maxLocals = x.2.2.1 ∧ s.vm.findClass x.1.cls = some m.cls ∧ (∀ w ∈ hz_ws x, w.before args s = true) ∧ meth.sig.returnType = x.2.2.2 ∧ meth.locks = false ∧ meth.name = x.1.name ∧ hz_kw κ ∧ va_K κ.2.1 hz_kl (hz_tys κ) s ∧ hz_Z κ s s.heap
/-- the machine at a place of a method, with a memory, comes to the method's end with P -/
def hz_W (κ : hz_C) (x : hz_X) (d mc ms : Nat) (P : hz_P) (cn sn pc : Nat) (lo : List (Nat × Value)) (st : List Value) (z : Nat) (M : hz_M) : Prop :=
  ∀ (p : Program) (e : Env) (s : State) (m : MethodId) (args : Array Value) (below : List Frame) (meth : Method) (c : Code) (H : Heap) (locs : List Loc) (ls : Array Slot),
    hz_fr κ x p s m args meth c → hz_wd κ M z H → va_S (hz_A κ) s.heap H locs → lv_has ls x.2.2.1 (lo.map (fun q => (q.1, hz_rv κ q.2))) →
    W p κ.1 e (hz_rm d mc ms) s m args below meth c H locs cn sn (MQ below (hz_Q κ P) args s mc ms (hz_A κ)) (F0 m pc ls (st.map (hz_rv κ)))
theorem hz_cat (κ : hz_C) (v : Value) : (hz_rv κ v).category = v.category := by cases v <;> rfl
theorem hz_args (κ : hz_C) : ∀ (vs : List Value) (i : Nat), lv_args i (vs.map (hz_rv κ)) = (lv_args i vs).map (fun q => (q.1, hz_rv κ q.2))
  | [], _ => rfl
  | v :: vs, i => by
    show (i, hz_rv κ v) :: lv_args (if (hz_rv κ v).category = 2 then i + 2 else i + 1) (vs.map (hz_rv κ)) = (i, hz_rv κ v) :: (lv_args (if v.category = 2 then i + 2 else i + 1) vs).map _
    rw [hz_cat, hz_args κ vs]
theorem hz_slen (κ : hz_C) (vs : List Value) : (lg_sl (vs.map (hz_rv κ))).length = (lg_sl vs).length := by
  induction vs with
  | nil => rfl
  | cons v vs ih =>
    simp only [lg_sl, List.map_cons, List.flatMap_cons, List.length_append] at ih ⊢
    rw [ih, hz_cat]
    split <;> rfl
/-- a contract out of the walk from the entry -/
theorem hz_ent {κ : hz_C} {x : hz_X} {d mc ms z : Nat} {as : List Value} {M : hz_M} {P : hz_P} {lo : List (Nat × Value)} (hy : plainName x.1.cls = true) (hn : (lg_sl as).length ≤ x.2.2.1) (hlo : lv_args 0 as = lo)
    (k : hz_W κ x d mc ms P 0 0 0 lo [] z M) : hz_Mt κ x d mc ms as z M P := by
  obtain ⟨y, cc, mL, rt⟩ := x
  refine Met.ofW (cc := cc) (maxL := mL) (ret := rt) (ws' := hz_T) hy rfl ?_
  intro p e s m args below meth c s₁ B hml hv
  obtain ⟨rfl, hwd, hK, hZ, hkw⟩ := hv
  have hts := atoms_spec (ws := hz_ws (y, cc, mL, rt)) B.pre
  have hl := lv_entry (as.map (hz_rv κ)) (n := mL) (by rw [hz_slen]; exact hn)
  rw [hz_args, hlo] at hl
  rw [lg_entry_eq]
  exact k p e s m _ below meth c s.heap [] _ ⟨B.exec, B.bytes, hml, findClass_of_methodNamed B.named, hts, B.returns, B.notSynchronized, (name_of_methodNamed B.named B.method).1, hkw, hK, hZ⟩ hwd va_S.rf hl
