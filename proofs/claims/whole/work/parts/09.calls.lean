/-! BASE: calls -/
theorem hz_good {x x2 : hz_X} (h : Cond.code x2.1 x2.2.1 x2.2.2.1 x2.2.2.2 ∈ lw_tbl) : GoodIn (hz_ws x) (hz_ws x2) := by
  intro w hw
  rcases List.mem_cons.mp hw with rfl | hw
  · exact ⟨List.mem_cons_of_mem _ (hz_inT h rfl), good_of_word rfl⟩
  · exact ⟨List.mem_cons_of_mem _ hw, good_of_word (List.mem_filter.mp hw).2⟩
theorem hz_blind (κ : hz_C) (as : List Value) (z : Nat) (M : hz_M) : FrameBlind (hz_Pc κ as z M) := by
  intro a U g mk h
  obtain ⟨h1, h2, h3, h4, h5⟩ := h
  exact ⟨h1, h2, va_K.moved (u := U) (U := U.calling g mk a) (Vm.Alike.refl U.vm) h3, h4.calls g mk a, h5⟩
/-- which method a call names: static, instance (private or not), constructor; n arguments beside the receiver -/
def hz_co (own : String) (idx : Nat) (x2 : hz_X) (n : Nat) : Prop := Cond.methodLink own idx x2.1 ∈ lw_tbl ∧ Cond.code x2.1 x2.2.1 x2.2.2.1 x2.2.2.2 ∈ lw_tbl ∧ Cond.initialized x2.1.cls ∈ lw_tbl ∧ (x2.1.cls ≠ "java/lang/invoke/MethodHandle" ∧ x2.1.cls ≠ "java/lang/invoke/VarHandle" ∧ (parseMethodDescriptor x2.1.desc).map (fun d => d.parameters.length) = some n) ∧ x2.2.2.1 ≤ 29
def hz_cn (own : String) (idx : Nat) (x2 : hz_X) (n : Nat) (host : String) : Prop := Cond.methodLinkNest own idx x2.1 host ∈ lw_tbl ∧ Cond.code x2.1 x2.2.1 x2.2.2.1 x2.2.2.2 ∈ lw_tbl ∧ Cond.initialized x2.1.cls ∈ lw_tbl ∧ (x2.1.cls ≠ "java/lang/invoke/MethodHandle" ∧ x2.1.cls ≠ "java/lang/invoke/VarHandle" ∧ (parseMethodDescriptor x2.1.desc).map (fun d => d.parameters.length) = some n) ∧ x2.2.2.1 ≤ 29
section HZC
variable {κ : hz_C} {x x2 : hz_X} {d d2 mc ms mc2 ms2 : Nat} {P P2 : hz_P} {cn sn pc idx n : Nat} {lo : List (Nat × Value)} {st stA As : List Value} {z : Nat} {M : hz_M}
theorem hz_cb {R : Room} {p : Program} {s : State} {m : MethodId} {args : Array Value} {meth : Method} {c : Code} (F : hz_fr κ x p s m args meth c) (hc : hz_co x.1.cls idx x2 n) (hdd : d2 + 1 ≤ d) (hR : R = hz_rm d mc ms) : CallB R s args x.1.cls idx x2.1 x2.2.1 x2.2.2.1 x2.2.2.2 (hz_ws x2) (hz_rm d2 mc2 ms2) mc2 ms2 n := by
  subst hR
  obtain ⟨h1, h2, h3, h4, h5⟩ := hc
  refine callB_of n F.2.2.2.2.1 (hz_good h2) rfl rfl rfl (F.2.2.2.2.1 _ (List.mem_cons_of_mem _ (hz_inT h3 rfl))) (F.2.2.2.2.1 _ (List.mem_cons_of_mem _ (hz_inT h1 rfl))) h4 ⟨hdd, ?_⟩
  show 8 + (x2.2.2.1 + 11) + 48 * d2 ≤ 48 * d
  omega
theorem hz_pre {p : Program} {s : State} {m : MethodId} {args : Array Value} {meth : Method} {c : Code} {H : Heap} {locs : List Loc} (F : hz_fr κ x p s m args meth c) (hwd : hz_wd κ M z H) (hS : va_S (hz_A κ) s.heap H locs) : ∀ U : State, U.heap = H → s.WarmedH U.vm → hz_Pc κ As z M (As.map (hz_rv κ)).toArray U := by
  intro U hU hW
  exact ⟨rfl, by rw [hU]; exact hwd, va_K.moved hW.alike F.2.2.2.2.2.2.2.2.2.1, by rw [hU]; exact F.2.2.2.2.2.2.2.2.2.2.warm hW hS.2.1, F.2.2.2.2.2.2.2.2.1⟩
theorem hz_back {p : Program} {l : Launch} {e : Env} {R : Room} {s : State} {m : MethodId} {args : Array Value} {below : List Frame} {meth : Method} {c : Code} {H : Heap} {locs : List Loc} {cells slots : Nat} {Q : State → Prop} {ls : Array Slot} {st0 rest : List Value} {a : Array Value}
    (hr : va_Run p l e R s m args below meth c H locs cells slots mc2 ms2 (F0 m pc ls st0) rest (hz_Q κ P2 a) (hz_A κ)) (hS : va_S (hz_A κ) s.heap H locs)
    (kk : ∀ (r : Option Value) (z2 : Nat) (M2 : hz_M) (H1 : Heap) (locs1 : List Loc), P2 r z2 M2 → hz_wd κ M2 z2 H1 → va_S (hz_A κ) s.heap H1 locs1 → W p l e R s m args below meth c H1 locs1 (cells + mc2) (slots + ms2) Q (F0 m (pc + 3) ls ((r.map (hz_rv κ)).toList ++ rest))) : W p l e R s m args below meth c H locs cells slots Q (F0 m pc ls st0) := by
  intro T hT X
  obtain ⟨v, st₀, t, T', L, h0, X', hL, e1, e2, ⟨⟨r, z2, M2, hv, hp, hwd2⟩, hz, hk⟩, st⟩ := hr T hT X
  cases hv
  rw [h0] at hz hk
  obtain ⟨t2, a1, b1⟩ := kk r z2 M2 T'.heap (locs ++ L) hp (by rw [e1]; exact hwd2)
    ⟨Nat.le_trans hS.1 (by rw [e1]; exact hz), fun q h1 h2 => by rw [e1, hk q (Nat.lt_of_lt_of_le h1 hS.1) h2]; exact hS.2.1 q h1 h2, fun q hq => by
      rcases List.mem_append.mp hq with h | h
      · exact hS.2.2 q h
      · exact hL q h⟩ T' rfl X'
  exact ⟨t2, st t2 a1, b1⟩
theorem hz_stm {κ : hz_C} {st : List Value} (h : (st.map fun v => v.category).sum ≤ 8) : ((st.map (hz_rv κ)).map fun v => v.category).sum ≤ 8 := by
  rw [List.map_map]
  have e : ((fun v : Value => v.category) ∘ hz_rv κ) = fun v => v.category := funext fun v => hz_cat κ v
  rw [e]
  exact h
theorem hz_tl (κ : hz_C) (r : Option Value) (st : List Value) : (r.toList ++ st).map (hz_rv κ) = (r.map (hz_rv κ)).toList ++ st.map (hz_rv κ) := by cases r <;> rfl
theorem hz_callS (hd : decode x.2.1 pc = .ok (.invokestatic idx, 3)) (hc : hz_co x.1.cls idx x2 n) (hs : Cond.static x2.1 ∈ lw_tbl) (hM : hz_Mt κ x2 d2 mc2 ms2 As z M P2) (hn : As.length = n) (hdd : d2 + 1 ≤ d) (hrm : cn + mc2 ≤ mc ∧ sn + ms2 ≤ ms) (hsum : (st.map fun v => v.category).sum ≤ 8) (hst : As.reverse ++ st = stA)
    (kk : ∀ (r : Option Value) (z2 : Nat) (M2 : hz_M), P2 r z2 M2 → hz_W κ x d mc ms P (cn + mc2) (sn + ms2) (pc + 3) lo (r.toList ++ st) z2 M2) : hz_W κ x d mc ms P cn sn pc lo stA z M := by
  intro p e s m args below meth c H locs ls F hwd hS hl
  subst hst
  refine hz_back (rest := st.map (hz_rv κ)) (va_runS (As := As.map (hz_rv κ)) ⟨F.1, F.2.1, F.2.2.1, F.2.2.2.1, F.2.2.2.2.1⟩ hM ⟨hz_cb F hc hdd rfl, F.2.2.2.2.1 _ (List.mem_cons_of_mem _ (hz_inT hs rfl))⟩ ⟨hz_blind κ As z M, hz_pre F hwd hS⟩ rfl (by rw [List.length_map]; exact hn) hl.1 (by rw [List.map_append, List.map_reverse]) (lv_room (hz_stm hsum)) hd hrm) hS (fun r z2 M2 H1 locs1 hp hw2 hS2 => ?_)
  rw [← hz_tl]
  exact kk r z2 M2 hp p e s m args below meth c H1 locs1 ls F hw2 hS2 hl
theorem hz_callV {a ci : Nat} {fs : List Value} {T : u_T} {N : Nat} (hd : decode x.2.1 pc = .ok (.invokevirtual idx, 3)) (hc : hz_co x.1.cls idx x2 n) (hi : Cond.instanceMethod x2.1 ∈ lw_tbl) (hs : Cond.selects x2.1.cls x2.1 x2.1 ∈ lw_tbl) (hcl : hz_kl[ci]? = some (x2.1.cls, T, N)) (hMa : M a = .inr (ci, fs)) (ha : 8 ≤ a) (hz : a < z) (hM : hz_Mt κ x2 d2 mc2 ms2 (.ref a :: As) z M P2) (hn : As.length = n) (hdd : d2 + 1 ≤ d) (hrm : cn + mc2 ≤ mc ∧ sn + ms2 ≤ ms) (hsum : (st.map fun v => v.category).sum ≤ 8) (hst : As.reverse ++ .ref a :: st = stA)
    (kk : ∀ (r : Option Value) (z2 : Nat) (M2 : hz_M), P2 r z2 M2 → hz_W κ x d mc ms P (cn + mc2) (sn + ms2) (pc + 3) lo (r.toList ++ st) z2 M2) : hz_W κ x d mc ms P cn sn pc lo stA z M := by
  intro p e s m args below meth c H locs ls F hwd hS hl
  subst hst
  refine hz_back (rest := st.map (hz_rv κ)) (va_runV (C := x2.1.cls) (b := κ.2.2.2.1 a) (As := As.map (hz_rv κ)) ⟨F.1, F.2.1, F.2.2.1, F.2.2.2.1, F.2.2.2.2.1⟩ hM ⟨hz_cb F hc hdd rfl, F.2.2.2.2.1 _ (List.mem_cons_of_mem _ (hz_inT hi rfl)), F.2.2.2.2.1 _ (List.mem_cons_of_mem _ (hz_inT hs rfl))⟩ ⟨hz_blind κ (.ref a :: As) z M, va_recv F.2.2.2.2.2.2.2.2.2.1 (hz_one hwd hMa ha hz) hcl (q0 := 0) rfl, hz_pre F hwd hS⟩ rfl (by rw [List.length_map]; exact hn) hl.1 (by rw [List.map_append, List.map_reverse]; rfl) (lv_room (hz_stm hsum)) hd hrm) hS (fun r z2 M2 H1 locs1 hp hw2 hS2 => ?_)
  rw [← hz_tl]
  exact kk r z2 M2 hp p e s m args below meth c H1 locs1 ls F hw2 hS2 hl
theorem hz_callI {a : Nat} (hd : decode x.2.1 pc = .ok (.invokespecial idx, 3)) (hc : hz_co x.1.cls idx x2 n) (hi : Cond.instanceMethod x2.1 ∈ lw_tbl) (hnm : x2.1.name = "<init>") (hret : x2.2.2.2 = none) (hM : hz_Mt κ x2 d2 mc2 ms2 (.ref a :: As) z M P2) (hn : As.length = n) (hdd : d2 + 1 ≤ d) (hrm : cn + mc2 ≤ mc ∧ sn + ms2 ≤ ms) (hsum : (st.map fun v => v.category).sum ≤ 8) (hst : As.reverse ++ .ref a :: st = stA)
    (kk : ∀ (r : Option Value) (z2 : Nat) (M2 : hz_M), P2 r z2 M2 → hz_W κ x d mc ms P (cn + mc2) (sn + ms2) (pc + 3) lo (r.toList ++ st) z2 M2) : hz_W κ x d mc ms P cn sn pc lo stA z M := by
  intro p e s m args below meth c H locs ls F hwd hS hl
  subst hst
  have hcb := hz_cb (mc2 := mc2) (ms2 := ms2) (mc := mc) (ms := ms) F hc hdd rfl
  rw [hret] at hcb
  refine hz_back (rest := st.map (hz_rv κ)) (va_runI (b := κ.2.2.2.1 a) (As := As.map (hz_rv κ)) ⟨F.1, F.2.1, F.2.2.1, F.2.2.2.1, F.2.2.2.2.1⟩ hM ⟨hcb, hnm, F.2.2.2.2.1 _ (List.mem_cons_of_mem _ (hz_inT hi rfl))⟩ ⟨hz_blind κ (.ref a :: As) z M, hz_pre F hwd hS⟩ rfl (by rw [List.length_map]; exact hn) hl.1 (by rw [List.map_append, List.map_reverse]; rfl) (lv_room (hz_stm hsum)) hd hrm) hS (fun r z2 M2 H1 locs1 hp hw2 hS2 => ?_)
  rw [← hz_tl]
  exact kk r z2 M2 hp p e s m args below meth c H1 locs1 ls F hw2 hS2 hl
theorem hz_callIN {a : Nat} {host : String} (hd : decode x.2.1 pc = .ok (.invokespecial idx, 3)) (hc : hz_cn x.1.cls idx x2 n host) (hi : Cond.instanceMethod x2.1 ∈ lw_tbl) (hnm : x2.1.name = "<init>") (hret : x2.2.2.2 = none) (hM : hz_Mt κ x2 d2 mc2 ms2 (.ref a :: As) z M P2) (hn : As.length = n) (hdd : d2 + 1 ≤ d) (hrm : cn + mc2 ≤ mc ∧ sn + ms2 ≤ ms) (hsum : (st.map fun v => v.category).sum ≤ 8) (hst : As.reverse ++ .ref a :: st = stA)
    (kk : ∀ (r : Option Value) (z2 : Nat) (M2 : hz_M), P2 r z2 M2 → hz_W κ x d mc ms P (cn + mc2) (sn + ms2) (pc + 3) lo (r.toList ++ st) z2 M2) : hz_W κ x d mc ms P cn sn pc lo stA z M := by
  intro p e s m args below meth c H locs ls F hwd hS hl
  subst hst
  obtain ⟨h1, h2, h3, h4, h5⟩ := hc
  have hcw : va_CN (hz_rm d mc ms) s args x.1.cls idx x2.1 host x2.2.1 x2.2.2.1 x2.2.2.2 (hz_ws x2) (hz_rm d2 mc2 ms2) mc2 ms2 n := by
    refine va_cnB n F.2.2.2.2.1 (hz_good h2) rfl rfl rfl (F.2.2.2.2.2.2.2.2.2.2.2.2.2.2.2.1 _ _ _ _ h1) (F.2.2.2.2.1 _ (List.mem_cons_of_mem _ (hz_inT h3 rfl))) h4 ⟨hdd, ?_⟩
    show 8 + (x2.2.2.1 + 11) + 48 * d2 ≤ 48 * d
    omega
  rw [hret] at hcw
  refine hz_back (rest := st.map (hz_rv κ)) (va_runIN (b := κ.2.2.2.1 a) (As := As.map (hz_rv κ)) ⟨F.1, F.2.1, F.2.2.1, F.2.2.2.1, F.2.2.2.2.1⟩ hM ⟨hcw, hnm, F.2.2.2.2.1 _ (List.mem_cons_of_mem _ (hz_inT hi rfl))⟩ ⟨hz_blind κ (.ref a :: As) z M, hz_pre F hwd hS⟩ rfl (by rw [List.length_map]; exact hn) hl.1 (by rw [List.map_append, List.map_reverse]; rfl) (lv_room (hz_stm hsum)) hd hrm) hS (fun r z2 M2 H1 locs1 hp hw2 hS2 => ?_)
  rw [← hz_tl]
  exact kk r z2 M2 hp p e s m args below meth c H1 locs1 ls F hw2 hS2 hl
/-- a weaker end -/
theorem hz_Mt.weak {P3 : hz_P} (h : hz_Mt κ x d mc ms As z M P2) (hp : ∀ r z M, P2 r z M → P3 r z M) : hz_Mt κ x d mc ms As z M P3 := by
  intro p e ha hc hk s m args below hf happ hv hK
  obtain ⟨n, o, h1, h2, h3, ⟨⟨r, z2, M2, q1, q2, q3⟩, q4⟩, q5⟩ := h p e ha hc hk s m args below hf happ hv hK
  exact ⟨n, o, h1, h2, h3, ⟨⟨r, z2, M2, q1, hp _ _ _ q2, q3⟩, q4⟩, q5⟩
theorem hz_W.widen {cn2 sn2 : Nat} (h1 : cn ≤ cn2) (h2 : sn ≤ sn2) (h : hz_W κ x d mc ms P cn2 sn2 pc lo st z M) : hz_W κ x d mc ms P cn sn pc lo st z M :=
  fun p e s m args below meth c H locs ls F hwd hS hl => W.widen h1 h2 (h p e s m args below meth c H locs ls F hwd hS hl)
end HZC
