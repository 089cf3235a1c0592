/-! fields that are final; the constructor of Object -/
section HZF
variable {κ : hz_C} {x : hz_X} {d mc ms : Nat} {P : hz_P} {cn sn pc : Nat} {lo : List (Nat × Value)} {st : List Value} {z : Nat} {M : hz_M}
theorem hz_putF {a ci k idx : Nat} {fs : List Value} {v : Value} {ty : FieldType} (hd : decode x.2.1 pc = .ok (.putfield idx, 3)) (hf : hz_fo x.1.cls idx ci k) (hf1 : hz_fo1 ci k ty true) (ho : (hz_kl[ci]?).map (fun q => q.1) = some x.1.cls) (hin2 : x.1.name = "<init>") (hM : M a = .inr (ci, fs)) (ha : 8 ≤ a) (hz : a < z) (hn : narrow ty (hz_rv κ v) = hz_rv κ v) (hfit : fits ty (hz_rv κ v) = true) (hlen : k < fs.length) (kk : hz_W κ x d mc ms P cn sn (pc + 3) lo st z (va_up M a (.inr (ci, fs.set k v)))) : hz_W κ x d mc ms P cn sn pc lo (v :: .ref a :: st) z M := by
  intro p e s m args below meth c H locs ls F hwd hS hl
  obtain ⟨C, T, N, ty0, hc, hk, hlink, hin, hty, hnm⟩ := hf
  obtain ⟨C1, T1, N1, hc1, hfin, hd1, hdc⟩ := hf1
  cases hc.symm.trans hc1
  have hCx : C = x.1.cls := by rw [hc] at ho; exact Option.some.inj ho
  have hdecl : (T k).1 = x.1.cls := hdc.trans hCx
  have hat := (hwd.2.2.2 a ha hz).1
  rw [hM] at hat
  obtain ⟨r, h1, cell, q1, q2, q3, q4⟩ := hat
  have hr : r = (C, T, N) := Option.some.inj (h1.symm.trans hc)
  subst hr
  have hts : ∀ w ∈ hz_ws x, w.before args s = true := F.2.2.2.2.1
  have hin' : ∀ w ∈ u_ws C T N, w ∈ hz_ws x := fun w hw => List.mem_cons_of_mem _ (hz_inU hin w hw)
  have hK := F.2.2.2.2.2.2.2.2.2.1
  have hw := F.2.2.2.2.2.2.2.2.1
  have hown := F.2.2.2.1
  have hap := va_apart (own := x.1.cls) hts hin' ty0 hty hnm hK hc
  obtain ⟨hSl, hfc, kC, hkC, hkind⟩ := hK.1 ci _ hc
  obtain ⟨cf, kf, fi, f, hi, hsl⟩ := hSl k hk
  have hlay := hts _ (hin' _ (u_in_lay hk))
  unfold u_lay at hlay
  rw [if_pos hfin] at hlay
  have hst := (u_facts hfc hkC (u_lays hts hin' hk) hi).1
  have hcf : m.cls = cf := by
    obtain ⟨_, _, c', _, _, _, -, -, hf', -, -, -, hown2, -⟩ := Cond.laysFinal_spec hlay
    have e1 : c' = cf := by have := hi.symm.trans hf'; simp at this; exact this.1.symm
    rw [hdecl] at hown2
    rw [← e1]; exact Option.some.inj (hown.symm.trans hown2)
  have h6 := u_fits hfc hkC hkind (Or.inr hlay) hi hd1 hn hfit
  refine W.putFinK F.1 F.2.1 hown (hts _ (List.mem_cons_of_mem _ (hz_inT hlink rfl))) hi hst hcf (F.2.2.2.2.2.2.2.1.trans hin2) (by rw [q2]; exact h6) q1 q3 (by rw [hsl]; exact k2_hasslot (q4 k hk)) rfl rfl hd fun H' e1 e2 e3 => ?_
  rw [hsl] at e1 ⊢
  refine kk p e s m args below meth c H' _ ls F (hwd.put hw ha hz ?_ trivial e2 e3) (hS.put e2 e3 (hz_adA hw ha)) hl
  refine ⟨_, hc, t_OB.to (V := updV (vp_V (fs.map (hz_rv κ))) k (hz_rv κ v)) ⟨_, e1, q2, q3, t_set q4 hap hk (hz_rv κ v)⟩ (fun j _ => ?_)⟩
  show _ = vp_V ((fs.set k v).map (hz_rv κ)) j
  rw [List.map_set]
  exact vp_updV_set (by rw [List.length_map]; exact hlen) (hz_rv κ v) j
end HZF
