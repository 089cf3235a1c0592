/-! BASE: cells read and written, calls -/
theorem hz_adn {κ : hz_C} (hw : hz_kw κ) {a b : Nat} (ha : 8 ≤ a) (hb : 8 ≤ b) (h : κ.2.2.2.1 a = κ.2.2.2.1 b) : a = b := by
  rw [hw.1 a ha, hw.1 b hb] at h
  omega
theorem hz_adA {κ : hz_C} (hw : hz_kw κ) {a : Nat} (ha : 8 ≤ a) : hz_A κ (κ.2.2.2.1 a) := by
  show κ.2.2.2.2 ≤ κ.2.2.2.1 a
  rw [hw.1 a ha]
  exact Nat.le_add_right _ _
theorem hz_wd.put {κ : hz_C} {M : hz_M} {z : Nat} {H H1 : Heap} {a : Nat} {e : va_E} (h : hz_wd κ M z H) (hw : hz_kw κ) (ha : 8 ≤ a) (hz : a < z) (he : va_at κ.2.1 hz_kl (κ.2.2.2.1 a, hz_re κ e) H1) (hbf : hz_bf e) (hs : H1.size = H.size) (oq : ∀ q, q ≠ κ.2.2.2.1 a → H1[q]? = H[q]?) : hz_wd κ (va_up M a e) z H1 := by
  refine ⟨h.1, hs.trans h.2.1, fun k hk => ?_, fun k hk hkz => ?_⟩
  · rw [va_up_ne M e (show k ≠ a by omega)]
    exact h.2.2.1 k hk
  · by_cases hka : k = a
    · subst hka
      rw [va_up_self]
      exact ⟨he, hbf⟩
    · rw [va_up_ne M e hka]
      exact ⟨(h.2.2.2 k hk hkz).1.kept (oq _ (fun q => hka (hz_adn hw hk ha q))), (h.2.2.2 k hk hkz).2⟩
theorem hz_bfB {n j : Nat} {f : Nat → Int32} (h : hz_bf (.inl (1, n, .inl f))) (v : Int32) : hz_bf (.inl (1, n, .inl (upd f j v.toInt8.toInt32))) := by
  intro q hq
  by_cases e : q = j
  · subst e
    simp [upd]
  · have h2 := h q hq
    simpa [upd, e] using h2
theorem hz_bfZ {n j : Nat} {f : Nat → Int32} {v : Int32} (h : hz_bf (.inl (3, n, .inl f))) (hv : v = 0 ∨ v = 1) : hz_bf (.inl (3, n, .inl (upd f j v))) := by
  intro q hq
  by_cases e : q = j
  · subst e
    simpa [upd] using hv
  · have h2 := h q hq
    simpa [upd, e] using h2
theorem hz_mne {M : hz_M} {a b : Nat} {e e' : va_E} (h : M b = e') (hne : b ≠ a) : va_up M a e b = e' := (va_up_ne M e hne).trans h
section HZM
variable {κ : hz_C} {x : hz_X} {d mc ms : Nat} {P : hz_P} {cn sn pc : Nat} {lo : List (Nat × Value)} {st : List Value} {z : Nat} {M : hz_M}
/-- field idx of the class 'own' is field k of class ci -/
def hz_fo (own : String) (idx ci k : Nat) : Prop := ∃ (C : String) (T : u_T) (N : Nat) (ty0 : Nat → FieldType), hz_kl[ci]? = some (C, T, N) ∧ k < N ∧ Cond.fieldLink own idx (T k).1 (T k).2.1 (T k).2.2.1 ∈ lw_tbl ∧ (∀ w ∈ u_ws C T N, w ∈ lw_tbl) ∧ (∀ k, k < N → parseFieldDescriptor (T k).2.2.1 = some (ty0 k)) ∧ (∀ a, a < N → ∀ b, b < N → a ≠ b → (T a).2.1 ≠ (T b).2.1)
def hz_fo1 (ci k : Nat) (ty : FieldType) (fin : Bool) : Prop := ∃ (C : String) (T : u_T) (N : Nat), hz_kl[ci]? = some (C, T, N) ∧ (T k).2.2.2 = fin ∧ parseFieldDescriptor (T k).2.2.1 = some ty ∧ (T k).1 = C
theorem hz_get {a ci k idx : Nat} {fs : List Value} {v : Value} (hd : decode x.2.1 pc = .ok (.getfield idx, 3)) (hf : hz_fo x.1.cls idx ci k) (hM : M a = .inr (ci, fs)) (ha : 8 ≤ a) (hz : a < z) (hv : fs[k]? = some v) (kk : hz_W κ x d mc ms P cn sn (pc + 3) lo (v :: st) z M) : hz_W κ x d mc ms P cn sn pc lo (.ref a :: st) z M := by
  intro p e s m args below meth c H locs ls F hwd hS hl
  obtain ⟨C, T, N, ty0, hc, hk, hlink, hin, -, -⟩ := hf
  have hat := (hwd.2.2.2 a ha hz).1
  rw [hM] at hat
  refine va_get (ci := ci) (C := C) (T := T) (N := N) (ws := [(κ.2.2.2.1 a, hz_re κ (.inr (ci, fs)))]) (fs := fs.map (hz_rv κ)) (v := hz_rv κ v) F.1 F.2.1 F.2.2.2.2.1 (fun w hw => List.mem_cons_of_mem _ (hz_inU hin w hw)) F.2.2.2.1 F.2.2.2.2.2.2.2.2.2.1 (fun j q hj => ?_) 0 rfl hc k hk (F.2.2.2.2.1 _ (List.mem_cons_of_mem _ (hz_inT hlink rfl))) (fun _ h9 => h9) (by rw [List.getElem?_map, hv]; rfl) hd (kk p e s m args below meth c H locs ls F hwd hS hl)
  have hj0 : j < 1 := (List.getElem?_eq_some_iff.mp hj).1
  rw [show j = 0 by omega] at hj
  cases hj
  exact hat
theorem hz_put0 {a ci k idx : Nat} {fs : List Value} {v : Value} {ty : FieldType} (hd : decode x.2.1 pc = .ok (.putfield idx, 3)) (hf : hz_fo x.1.cls idx ci k) (hf1 : hz_fo1 ci k ty false) (hM : M a = .inr (ci, fs)) (ha : 8 ≤ a) (hz : a < z) (hn : narrow ty (hz_rv κ v) = hz_rv κ v) (hfit : fits ty (hz_rv κ v) = true) (hlen : k < fs.length) (kk : hz_W κ x d mc ms P cn sn (pc + 3) lo st z (va_up M a (.inr (ci, fs.set k v)))) : hz_W κ x d mc ms P cn sn pc lo (v :: .ref a :: st) z M := by
  intro p e s m args below meth c H locs ls F hwd hS hl
  obtain ⟨C, T, N, ty0, hc, hk, hlink, hin, hty, hnm⟩ := hf
  obtain ⟨C1, T1, N1, hc1, hfin, hd1, -⟩ := hf1
  cases hc.symm.trans hc1
  have hat := (hwd.2.2.2 a ha hz).1
  rw [hM] at hat
  obtain ⟨r, h1, cell, q1, q2, q3, q4⟩ := hat
  have hr : r = (C, T, N) := Option.some.inj (h1.symm.trans hc)
  subst hr
  have hts : ∀ w ∈ hz_ws x, w.before args s = true := F.2.2.2.2.1
  have hin' : ∀ w ∈ u_ws C T N, w ∈ hz_ws x := fun w hw => List.mem_cons_of_mem _ (hz_inU hin w hw)
  have hK := F.2.2.2.2.2.2.2.2.2.1
  have hw := F.2.2.2.2.2.2.2.2.1
  have hap := va_apart (own := x.1.cls) hts hin' ty0 hty hnm hK hc
  obtain ⟨hSl, hfc, kC, hkC, hkind⟩ := hK.1 ci _ hc
  obtain ⟨cf, kf, fi, f, hi, hsl⟩ := hSl k hk
  have hlay := hts _ (hin' _ (u_in_lay hk))
  unfold u_lay at hlay
  rw [if_neg (by rw [hfin]; decide)] at hlay
  have hst := (u_facts hfc hkC (u_lays hts hin' hk) hi).1
  have h6 := u_store hfc hkC hkind hlay hi hd1 hn hfit
  refine W.putK F.1 F.2.1 (f := f) ⟨F.2.2.2.1, hts _ (List.mem_cons_of_mem _ (hz_inT hlink rfl)), ⟨_, _, _, hi⟩, hst⟩ (by rw [q2]; exact h6) q1 q3 (by rw [hsl]; exact k2_hasslot (q4 k hk)) rfl rfl hd fun H' e1 e2 e3 => ?_
  rw [hsl] at e1 ⊢
  refine kk p e s m args below meth c H' _ ls F (hwd.put hw ha hz ?_ trivial e2 e3) (hS.put e2 e3 (hz_adA hw ha)) hl
  refine ⟨_, hc, t_OB.to (V := updV (vp_V (fs.map (hz_rv κ))) k (hz_rv κ v)) ⟨_, e1, q2, q3, t_set q4 hap hk (hz_rv κ v)⟩ (fun j _ => ?_)⟩
  show _ = vp_V ((fs.set k v).map (hz_rv κ)) j
  rw [List.map_set]
  exact vp_updV_set (by rw [List.length_map]; exact hlen) (hz_rv κ v) j
theorem hz_puti {a ci k idx : Nat} {fs : List Value} {v : Int32} (hd : decode x.2.1 pc = .ok (.putfield idx, 3)) (hf : hz_fo x.1.cls idx ci k) (hf1 : hz_fo1 ci k .int false) (hM : M a = .inr (ci, fs)) (ha : 8 ≤ a) (hz : a < z) (hlen : k < fs.length) (kk : hz_W κ x d mc ms P cn sn (pc + 3) lo st z (va_up M a (.inr (ci, fs.set k (.int v))))) : hz_W κ x d mc ms P cn sn pc lo (.int v :: .ref a :: st) z M :=
  hz_put0 hd hf hf1 hM ha hz rfl rfl hlen kk
theorem hz_putl {a ci k idx : Nat} {fs : List Value} {v : Int64} (hd : decode x.2.1 pc = .ok (.putfield idx, 3)) (hf : hz_fo x.1.cls idx ci k) (hf1 : hz_fo1 ci k .long false) (hM : M a = .inr (ci, fs)) (ha : 8 ≤ a) (hz : a < z) (hlen : k < fs.length) (kk : hz_W κ x d mc ms P cn sn (pc + 3) lo st z (va_up M a (.inr (ci, fs.set k (.long v))))) : hz_W κ x d mc ms P cn sn pc lo (.long v :: .ref a :: st) z M :=
  hz_put0 hd hf hf1 hM ha hz rfl rfl hlen kk
theorem hz_putz {a ci k idx : Nat} {fs : List Value} {v : Int32} (hd : decode x.2.1 pc = .ok (.putfield idx, 3)) (hf : hz_fo x.1.cls idx ci k) (hf1 : hz_fo1 ci k .boolean false) (hM : M a = .inr (ci, fs)) (ha : 8 ≤ a) (hz : a < z) (hlen : k < fs.length) (hv : narrow .boolean (.int v) = .int v) (hfit : fits .boolean (.int v) = true) (kk : hz_W κ x d mc ms P cn sn (pc + 3) lo st z (va_up M a (.inr (ci, fs.set k (.int v))))) : hz_W κ x d mc ms P cn sn pc lo (.int v :: .ref a :: st) z M :=
  hz_put0 hd hf hf1 hM ha hz hv hfit hlen kk
/-- the four static arrays -/
theorem hz_gets {idx k : Nat} (hd : decode x.2.1 pc = .ok (.getstatic idx, 3)) (hk : k < 4) (hlink : Cond.fieldLink x.1.cls idx (hz_zc k).1 (hz_zc k).2 "[I" ∈ lw_tbl) (kk : hz_W κ x d mc ms P cn sn (pc + 3) lo (.ref k :: st) z M) : hz_W κ x d mc ms P cn sn pc lo st z M := by
  intro p e s m args below meth c H locs ls F hwd hS hl
  exact va_gets F.1 F.2.1 (F.2.2.2.2.2.2.2.2.2.2.1 k hk).1 hS F.2.2.2.1 (F.2.2.2.2.1 _ (List.mem_cons_of_mem _ (hz_inT hlink rfl))) (fun _ h9 => h9) hd (kk p e s m args below meth c H locs ls F hwd hS hl)
theorem hz_vin {i : Int32} {j n : Nat} (hi : i = nI j) (hj : j < n) (hn : n < 2 ^ 31) : vp_in i n ∧ i.toNatClampNeg = j := by
  subst hi
  exact ⟨vp_in_nI hj hn, nI_clamp (by omega)⟩
theorem hz_ialdS {a j n : Nat} {f : Nat → Int32} {i : Int32} (hd : decode x.2.1 pc = .ok (.iaload, 1)) (hM : M a = .inl (0, n, .inl f)) (ha : a < 4) (hi : i = nI j) (hj : j < n) (hn : n < 2 ^ 31) (kk : hz_W κ x d mc ms P cn sn (pc + 1) lo (.int (f j) :: st) z M) : hz_W κ x d mc ms P cn sn pc lo (.int i :: .ref a :: st) z M := by
  intro p e s m args below meth c H locs ls F hwd hS hl
  have hs := hwd.2.2.1 a ha
  rw [hM] at hs
  obtain ⟨h1, h2⟩ := hz_vin hi hj hn
  have hn2 : n = hz_sn a := by unfold hz_st at hs; injection hs with hs; injection hs with _ hs; injection hs with hs _
  have hf2 : f = hz_sf a := by unfold hz_st at hs; injection hs with hs; injection hs with _ hs; injection hs with _ hs; injection hs with hs
  subst hn2; subst hf2
  exact va_ti (v := .int (hz_sf a j)) F.1 F.2.1 (F.2.2.2.2.2.2.2.2.2.2.1 a ha).2 hS h1 (by rw [h2]) hd (kk p e s m args below meth c H locs ls F hwd hS hl)
theorem hz_alenS {a n : Nat} {f : Nat → Int32} (hd : decode x.2.1 pc = .ok (.arraylength, 1)) (hM : M a = .inl (0, n, .inl f)) (ha : a < 4) (kk : hz_W κ x d mc ms P cn sn (pc + 1) lo (.int (nI n) :: st) z M) : hz_W κ x d mc ms P cn sn pc lo (.ref a :: st) z M := by
  intro p e s m args below meth c H locs ls F hwd hS hl
  have hs := hwd.2.2.1 a ha
  rw [hM] at hs
  have hn2 : n = hz_sn a := by unfold hz_st at hs; injection hs with hs; injection hs with _ hs; injection hs with hs _
  subst hn2
  exact va_tlen F.1 F.2.1 (F.2.2.2.2.2.2.2.2.2.2.1 a ha).2 hS rfl hd (kk p e s m args below meth c H locs ls F hwd hS hl)
theorem hz_one {κ : hz_C} {M : hz_M} {z a : Nat} {e : va_E} {H : Heap} (hwd : hz_wd κ M z H) (hM : M a = e) (ha : 8 ≤ a) (hz : a < z) : va_P κ.2.1 hz_kl [(κ.2.2.2.1 a, hz_re κ e)] H := by
  intro j q hj
  have hj0 : j < 1 := (List.getElem?_eq_some_iff.mp hj).1
  rw [show j = 0 by omega] at hj
  cases hj
  rw [← hM]
  exact (hwd.2.2.2 a ha hz).1
theorem hz_alen {a t n : Nat} {g : (Nat → Int32) ⊕ (Nat → Int64) ⊕ (Nat → UInt32) ⊕ (Nat → UInt64) ⊕ (Nat → Option Nat)} (hd : decode x.2.1 pc = .ok (.arraylength, 1)) (hM : M a = .inl (t, n, g)) (ht : t < 5) (ha : 8 ≤ a) (hz : a < z) (kk : hz_W κ x d mc ms P cn sn (pc + 1) lo (.int (nI n) :: st) z M) : hz_W κ x d mc ms P cn sn pc lo (.ref a :: st) z M := by
  intro p e s m args below meth c H locs ls F hwd hS hl
  have hP := hz_one hwd hM ha hz
  have hK := F.2.2.2.2.2.2.2.2.2.1
  have hty : ∃ ty, (hz_tys κ)[t]? = some (κ.2.2.1 t, ty) := by
    rcases (show t = 0 ∨ t = 1 ∨ t = 2 ∨ t = 3 ∨ t = 4 by omega) with rfl | rfl | rfl | rfl | rfl <;> exact ⟨_, rfl⟩
  obtain ⟨ty, hty⟩ := hty
  have kk2 := kk p e s m args below meth c H locs ls F hwd hS hl
  rcases g with g | g | g | g | g <;> exact va_alen F.1 F.2.1 hK hP 0 t rfl hty rfl hd kk2
theorem hz_iald {a j n : Nat} {f : Nat → Int32} {i : Int32} (hd : decode x.2.1 pc = .ok (.iaload, 1)) (hM : M a = .inl (0, n, .inl f)) (ha : 8 ≤ a) (hz : a < z) (hi : i = nI j) (hj : j < n) (hn : n < 2 ^ 31) (kk : hz_W κ x d mc ms P cn sn (pc + 1) lo (.int (f j) :: st) z M) : hz_W κ x d mc ms P cn sn pc lo (.int i :: .ref a :: st) z M := by
  intro p e s m args below meth c H locs ls F hwd hS hl
  obtain ⟨h1, h2⟩ := hz_vin hi hj hn
  refine va_iald F.1 F.2.1 F.2.2.2.2.2.2.2.2.2.1 (hz_one hwd hM ha hz) 0 0 rfl rfl h1 hd ?_
  rw [h2]
  exact kk p e s m args below meth c H locs ls F hwd hS hl
theorem hz_bald {a j n : Nat} {f : Nat → Int32} {i : Int32} (hd : decode x.2.1 pc = .ok (.baload, 1)) (hM : M a = .inl (1, n, .inl f)) (ha : 8 ≤ a) (hz : a < z) (hi : i = nI j) (hj : j < n) (hn : n < 2 ^ 31) (kk : hz_W κ x d mc ms P cn sn (pc + 1) lo (.int (f j) :: st) z M) : hz_W κ x d mc ms P cn sn pc lo (.int i :: .ref a :: st) z M := by
  intro p e s m args below meth c H locs ls F hwd hS hl
  obtain ⟨h1, h2⟩ := hz_vin hi hj hn
  refine va_bald F.1 F.2.1 F.2.2.2.2.2.2.2.2.2.1 (hz_one hwd hM ha hz) 0 1 rfl rfl h1 hd ?_
  rw [h2]
  exact kk p e s m args below meth c H locs ls F hwd hS hl
theorem hz_zald {a j n : Nat} {f : Nat → Int32} {i : Int32} (hd : decode x.2.1 pc = .ok (.baload, 1)) (hM : M a = .inl (3, n, .inl f)) (ha : 8 ≤ a) (hz : a < z) (hi : i = nI j) (hj : j < n) (hn : n < 2 ^ 31) (kk : hz_W κ x d mc ms P cn sn (pc + 1) lo (.int (f j) :: st) z M) : hz_W κ x d mc ms P cn sn pc lo (.int i :: .ref a :: st) z M := by
  intro p e s m args below meth c H locs ls F hwd hS hl
  obtain ⟨h1, h2⟩ := hz_vin hi hj hn
  refine va_zald F.1 F.2.1 F.2.2.2.2.2.2.2.2.2.1 (hz_one hwd hM ha hz) 0 3 rfl rfl h1 hd ?_
  rw [h2]
  exact kk p e s m args below meth c H locs ls F hwd hS hl
theorem hz_lald {a j n : Nat} {f : Nat → Int64} {i : Int32} (hd : decode x.2.1 pc = .ok (.laload, 1)) (hM : M a = .inl (2, n, .inr (.inl f))) (ha : 8 ≤ a) (hz : a < z) (hi : i = nI j) (hj : j < n) (hn : n < 2 ^ 31) (kk : hz_W κ x d mc ms P cn sn (pc + 1) lo (.long (f j) :: st) z M) : hz_W κ x d mc ms P cn sn pc lo (.int i :: .ref a :: st) z M := by
  intro p e s m args below meth c H locs ls F hwd hS hl
  obtain ⟨h1, h2⟩ := hz_vin hi hj hn
  refine va_lald F.1 F.2.1 F.2.2.2.2.2.2.2.2.2.1 (hz_one hwd hM ha hz) 0 2 rfl rfl h1 hd ?_
  rw [h2]
  exact kk p e s m args below meth c H locs ls F hwd hS hl
theorem hz_aald {a j n r : Nat} {f : Nat → Option Nat} {i : Int32} (hd : decode x.2.1 pc = .ok (.aaload, 1)) (hM : M a = .inl (4, n, .inr (.inr (.inr (.inr f))))) (ha : 8 ≤ a) (hz : a < z) (hi : i = nI j) (hj : j < n) (hn : n < 2 ^ 31) (hr : f j = some r) (kk : hz_W κ x d mc ms P cn sn (pc + 1) lo (.ref r :: st) z M) : hz_W κ x d mc ms P cn sn pc lo (.int i :: .ref a :: st) z M := by
  intro p e s m args below meth c H locs ls F hwd hS hl
  obtain ⟨h1, h2⟩ := hz_vin hi hj hn
  refine va_aldq F.1 F.2.1 F.2.2.2.2.2.2.2.2.2.1 (hz_one hwd hM ha hz) 0 4 rfl rfl h1 hd ?_
  rw [h2, hr]
  exact kk p e s m args below meth c H locs ls F hwd hS hl
theorem hz_iast {a j n : Nat} {f : Nat → Int32} {i v : Int32} (hd : decode x.2.1 pc = .ok (.iastore, 1)) (hM : M a = .inl (0, n, .inl f)) (ha : 8 ≤ a) (hz : a < z) (hi : i = nI j) (hj : j < n) (hn : n < 2 ^ 31) (kk : hz_W κ x d mc ms P cn sn (pc + 1) lo st z (va_up M a (.inl (0, n, .inl (upd f j v))))) : hz_W κ x d mc ms P cn sn pc lo (.int v :: .int i :: .ref a :: st) z M := by
  intro p e s m args below meth c H locs ls F hwd hS hl
  obtain ⟨h1, h2⟩ := hz_vin hi hj hn
  have hat := (hwd.2.2.2 a ha hz).1
  rw [hM] at hat
  have hK := F.2.2.2.2.2.2.2.2.2.1
  have hw := F.2.2.2.2.2.2.2.2.1
  refine W.iast F.1 F.2.1 hat ((hK.2 0 _ rfl).1 n (fun j => .int (f j))) (fun q => by cases q) (by show ¬ (i < 0 ∨ (arrV _ _ _).slots.size ≤ _); rw [arrV_size]; exact h1) rfl rfl hd fun H1 e1 e2 e3 => ?_
  refine kk p e s m args below meth c H1 _ ls F (hwd.put hw ha hz ?_ trivial e2 e3) (hS.put e2 e3 (hz_adA hw ha)) hl
  show H1[κ.2.2.2.1 a]? = some (vp_cell _ _)
  rw [e1]
  show some ((vp_cell (κ.2.2.1 0) (n, .inl f)).setSlot _ _) = some (vp_cell (κ.2.2.1 0) (n, .inl (upd f j v)))
  rw [vp_cell_i, vp_cell_i, arrV_store, h2]
  congr 2
  funext q
  by_cases hq : q = j
  · subst hq; simp [updV, upd]
  · simp [updV, upd, hq]
theorem hz_bast {a j n : Nat} {f : Nat → Int32} {i v : Int32} (hd : decode x.2.1 pc = .ok (.bastore, 1)) (hM : M a = .inl (1, n, .inl f)) (ha : 8 ≤ a) (hz : a < z) (hi : i = nI j) (hj : j < n) (hn : n < 2 ^ 31) (kk : hz_W κ x d mc ms P cn sn (pc + 1) lo st z (va_up M a (.inl (1, n, .inl (upd f j v.toInt8.toInt32))))) : hz_W κ x d mc ms P cn sn pc lo (.int v :: .int i :: .ref a :: st) z M := by
  intro p e s m args below meth c H locs ls F hwd hS hl
  obtain ⟨h1, h2⟩ := hz_vin hi hj hn
  have hat := (hwd.2.2.2 a ha hz).1
  rw [hM] at hat
  have hK := F.2.2.2.2.2.2.2.2.2.1
  have hw := F.2.2.2.2.2.2.2.2.1
  refine W.bast F.1 F.2.1 hat ((hK.2 1 _ rfl).1 n (fun j => .int (f j))) (fun q => by cases q) (by show ¬ (i < 0 ∨ (arrV _ _ _).slots.size ≤ _); rw [arrV_size]; exact h1) rfl rfl hd fun H1 e1 e2 e3 => ?_
  refine kk p e s m args below meth c H1 _ ls F (hwd.put hw ha hz ?_ (hz_bfB (hM ▸ (hwd.2.2.2 a ha hz).2) v) e2 e3) (hS.put e2 e3 (hz_adA hw ha)) hl
  show H1[κ.2.2.2.1 a]? = some (vp_cell _ _)
  rw [e1]
  show some ((vp_cell (κ.2.2.1 1) (n, .inl f)).setSlot _ _) = some (vp_cell (κ.2.2.1 1) (n, .inl (upd f j v.toInt8.toInt32)))
  rw [vp_cell_i, vp_cell_i, arrV_store, h2]
  congr 2
  funext q
  by_cases hq : q = j
  · subst hq; simp [updV, upd, narrow]
  · simp [updV, upd, hq]
theorem hz_zast {a j n : Nat} {f : Nat → Int32} {i v : Int32} (hd : decode x.2.1 pc = .ok (.bastore, 1)) (hM : M a = .inl (3, n, .inl f)) (ha : 8 ≤ a) (hz : a < z) (hi : i = nI j) (hj : j < n) (hn : n < 2 ^ 31) (hv : v = 0 ∨ v = 1) (kk : hz_W κ x d mc ms P cn sn (pc + 1) lo st z (va_up M a (.inl (3, n, .inl (upd f j v))))) : hz_W κ x d mc ms P cn sn pc lo (.int v :: .int i :: .ref a :: st) z M := by
  intro p e s m args below meth c H locs ls F hwd hS hl
  obtain ⟨h1, h2⟩ := hz_vin hi hj hn
  have hat := (hwd.2.2.2 a ha hz).1
  rw [hM] at hat
  have hK := F.2.2.2.2.2.2.2.2.2.1
  have hw := F.2.2.2.2.2.2.2.2.1
  refine W.zast F.1 F.2.1 hat ((hK.2 3 _ rfl).1 n (fun j => .int (f j))) (fun q => by cases q) (by show ¬ (i < 0 ∨ (arrV _ _ _).slots.size ≤ _); rw [arrV_size]; exact h1) rfl rfl hd fun H1 e1 e2 e3 => ?_
  refine kk p e s m args below meth c H1 _ ls F (hwd.put hw ha hz ?_ (hz_bfZ (hM ▸ (hwd.2.2.2 a ha hz).2) hv) e2 e3) (hS.put e2 e3 (hz_adA hw ha)) hl
  show H1[κ.2.2.2.1 a]? = some (vp_cell _ _)
  rw [e1]
  show some ((vp_cell (κ.2.2.1 3) (n, .inl f)).setSlot _ _) = some (vp_cell (κ.2.2.1 3) (n, .inl (upd f j v)))
  rw [vp_cell_i, vp_cell_i, arrV_store, h2, show narrow .boolean (.int v) = .int v by rcases hv with rfl | rfl <;> rfl]
  congr 2
  funext q
  by_cases hq : q = j
  · subst hq; simp [updV, upd]
  · simp [updV, upd, hq]
theorem hz_last {a j n : Nat} {f : Nat → Int64} {i : Int32} {v : Int64} (hd : decode x.2.1 pc = .ok (.lastore, 1)) (hM : M a = .inl (2, n, .inr (.inl f))) (ha : 8 ≤ a) (hz : a < z) (hi : i = nI j) (hj : j < n) (hn : n < 2 ^ 31) (kk : hz_W κ x d mc ms P cn sn (pc + 1) lo st z (va_up M a (.inl (2, n, .inr (.inl (vp_updL f j v)))))) : hz_W κ x d mc ms P cn sn pc lo (.long v :: .int i :: .ref a :: st) z M := by
  intro p e s m args below meth c H locs ls F hwd hS hl
  obtain ⟨h1, h2⟩ := hz_vin hi hj hn
  have hat := (hwd.2.2.2 a ha hz).1
  rw [hM] at hat
  have hK := F.2.2.2.2.2.2.2.2.2.1
  have hw := F.2.2.2.2.2.2.2.2.1
  refine W.last F.1 F.2.1 hat ((hK.2 2 _ rfl).1 n (fun j => .long (f j))) (fun q => by cases q) (by show ¬ (i < 0 ∨ (arrV _ _ _).slots.size ≤ _); rw [arrV_size]; exact h1) rfl rfl hd fun H1 e1 e2 e3 => ?_
  refine kk p e s m args below meth c H1 _ ls F (hwd.put hw ha hz ?_ trivial e2 e3) (hS.put e2 e3 (hz_adA hw ha)) hl
  show H1[κ.2.2.2.1 a]? = some (vp_cell _ _)
  rw [e1]
  show some ((arrV (κ.2.2.1 2) n (fun j => .long (f j))).setSlot _ _) = some (arrV (κ.2.2.1 2) n (fun q => .long (vp_updL f j v q)))
  rw [arrV_store, h2]
  congr 2
  funext q
  by_cases hq : q = j
  · subst hq; simp [updV, vp_updL]
  · simp [updV, vp_updL, hq]
theorem hz_bytes {a n : Nat} {f : Nat → Int32} (hM : M a = .inl (1, n, .inl f)) (ha : 8 ≤ a) (hz : a < z) (k : (∀ j, j < n → (f j).toInt8.toInt32 = f j) → hz_W κ x d mc ms P cn sn pc lo st z M) : hz_W κ x d mc ms P cn sn pc lo st z M := by
  intro p e s m args below meth c H locs ls F hwd hS hl
  have hb := (hwd.2.2.2 a ha hz).2
  rw [hM] at hb
  exact k hb p e s m args below meth c H locs ls F hwd hS hl
theorem hz_bools {a n : Nat} {f : Nat → Int32} (hM : M a = .inl (3, n, .inl f)) (ha : 8 ≤ a) (hz : a < z) (k : (∀ j, j < n → f j = 0 ∨ f j = 1) → hz_W κ x d mc ms P cn sn pc lo st z M) : hz_W κ x d mc ms P cn sn pc lo st z M := by
  intro p e s m args below meth c H locs ls F hwd hS hl
  have hb := (hwd.2.2.2 a ha hz).2
  rw [hM] at hb
  exact k hb p e s m args below meth c H locs ls F hwd hS hl
end HZM
