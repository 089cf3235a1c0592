/-! Object's constructor; the array of nodes -/
theorem obj_im : Cond.instanceMethod objectInit ∈ lw_tbl := hz_tm1 (List.mem_of_getElem? (i := 27) rfl)
theorem obj_cd : Cond.code objectInit object_method_1_code 1 none ∈ lw_tbl := hz_tm1 (List.mem_of_getElem? (i := 28) rfl)
section HZO
variable {κ : hz_C} {x : hz_X} {d mc ms : Nat} {P : hz_P} {cn sn pc : Nat} {lo : List (Nat × Value)} {st : List Value} {z : Nat} {M : hz_M}
theorem hz_obj {a idx : Nat} (hd : decode x.2.1 pc = .ok (.invokespecial idx, 3)) (hlk : Cond.methodLink x.1.cls idx objectInit ∈ lw_tbl) (hd1 : 1 ≤ d) (hsum : (st.map fun v => v.category).sum ≤ 8) (kk : hz_W κ x d mc ms P cn sn (pc + 3) lo st z M) : hz_W κ x d mc ms P cn sn pc lo (.ref a :: st) z M := by
  intro p e s m args below meth c H locs ls F hwd hS hl
  have hts : ∀ w ∈ hz_ws x, w.before args s = true := F.2.2.2.2.1
  refine W.objInit F.1 F.2.1 F.2.2.2.1 (hts _ (List.mem_cons_of_mem _ (hz_inT hlk rfl))) (hts _ (List.mem_cons_of_mem _ (hz_inT obj_im rfl))) (hts _ (List.mem_cons_of_mem _ (hz_inT obj_cd rfl))) rfl (by rw [F.2.2.1]; exact hl.1) rfl hd ?_ ?_ (kk p e s m args below meth c H locs ls F hwd hS hl)
  · show _ ≤ d
    omega
  · have q := lv_room (m := m) (pc := pc) (ls := ls) (rest := (Value.ref a :: st).map (hz_rv κ)) (hz_stm (κ := κ) hsum)
    show _ ≤ 48 * d
    omega
theorem hz_aast {a v j n : Nat} {f : Nat → Option Nat} {vs : List Value} (hd : decode x.2.1 pc = .ok (.aastore, 1)) (hM : M a = .inl (4, n, .inr (.inr (.inr (.inr f))))) (ha : 8 ≤ a) (hz : a < z) (hV : M v = .inr (6, vs)) (hv8 : 8 ≤ v) (hvz : v < z) (hj : j < n) (hn : n < 2 ^ 31) (kk : hz_W κ x d mc ms P cn sn (pc + 1) lo st z (va_up M a (.inl (4, n, .inr (.inr (.inr (.inr (va_up f j (some v))))))))) : hz_W κ x d mc ms P cn sn pc lo (.ref v :: .int (nI j) :: .ref a :: st) z M := by
  intro p e s m args below meth c H locs ls F hwd hS hl
  have hw := F.2.2.2.2.2.2.2.2.1
  have hK := F.2.2.2.2.2.2.2.2.2.1
  obtain ⟨hin, eJ⟩ := hz_vin (i := nI j) rfl hj hn
  have hPa := (hwd.2.2.2 a ha hz).1
  rw [hM] at hPa
  have hPv := (hwd.2.2.2 v hv8 hvz).1
  rw [hV] at hPv
  obtain ⟨r1, hr1, cellV, g1, g2, g3, -⟩ := hPv
  have hc6 : hz_kl[6]? = some (RX6, TX6, 14) := rfl
  have hr6 : r1 = (RX6, TX6, 14) := Option.some.inj (hr1.symm.trans hc6)
  subst hr6
  have hcls := (hK.1 6 _ hc6).2
  obtain ⟨kA, comp, k1, k2, k3, -⟩ := (hK.2 4 (κ.2.2.1 4, .object "ChainHouse$Node") rfl).2
  have hcomp : comp = κ.2.1.1 6 := Option.some.inj (k3.symm.trans hcls.1)
  subst hcomp
  obtain ⟨kC, hkC, -⟩ := hcls.2
  refine W.aast F.1 F.2.1 hPa (fun q h => by cases h) (fun h => by cases h) k1 k2 rfl hkC ⟨fun q => hin (Or.inl q), by show _ < (arrV _ _ _).slots.size; rw [arrV_size, eJ]; exact hj⟩ g1 (fun q h => by rw [g3] at h; cases h) (by rw [g2]; exact hkC) (by rw [g2]; exact va_assign hcls) rfl rfl hd fun H1 e1 z1 oq => ?_
  refine kk p e s m args below meth c H1 _ ls F (hwd.put hw ha hz ?_ trivial z1 oq) (hS.put z1 oq (hz_adA hw ha)) hl
  show H1[κ.2.2.2.1 a]? = some (vp_cell (κ.2.2.1 4) (n, .inr (.inr (.inr (.inr (fun q => ((va_up f j (some v)) q).map κ.2.2.2.1))))))
  rw [e1]
  rw [vp_cell_q, vp_cell_q, arrV_store, eJ]
  congr 2
  funext q
  by_cases hq : q = j
  · subst hq
    simp [updV, va_up, va_rf, hz_rv]
  · simp [updV, va_up, hq]
end HZO
