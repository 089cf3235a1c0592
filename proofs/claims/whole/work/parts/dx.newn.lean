/-! the array of nodes -/
section HZQ
variable {κ : hz_C} {x : hz_X} {d mc ms : Nat} {P : hz_P} {cn sn pc : Nat} {lo : List (Nat × Value)} {st : List Value} {z : Nat} {M : hz_M}
theorem hz_newN {n idx : Nat} (hd : decode x.2.1 pc = .ok (.anewarray idx, 3)) (hlk : Cond.classLink x.1.cls idx "ChainHouse$Node" ∈ lw_tbl) (hn : n < 1000) (hc : cn + 1 ≤ mc) (hs : sn + n ≤ ms)
    (kk : hz_W κ x d mc ms P (cn + 1) (sn + n) (pc + 3) lo (.ref z :: st) (z + 1) (va_up M z (.inl (4, n, .inr (.inr (.inr (.inr (fun _ => none)))))))) : hz_W κ x d mc ms P cn sn pc lo (.int (nI n) :: st) z M := by
  intro p e s m args below meth c H locs ls F hwd hS hl
  have hw := F.2.2.2.2.2.2.2.2.1
  have hK := F.2.2.2.2.2.2.2.2.2.1
  have hts : ∀ w ∈ hz_ws x, w.before args s = true := F.2.2.2.2.1
  have ez := hz_adz hwd hw
  have eN : (nI n).toNatClampNeg = n := (hz_vin (j := n) (n := n + 1) rfl (Nat.lt_succ_self n) (by omega)).2
  refine W.anew F.1 F.2.1 F.2.2.2.1 (hts _ (List.mem_cons_of_mem _ (hz_inT hlk rfl))) (va_AO.use F.2.2.2.2.2.2.2.2.2.2.2.2.2.2.2.2) rfl hd rfl (nI_pos (by omega)) (by rw [eN]; omega) hc (by rw [eN]; exact hs) fun cA kA comp f1 f2 f3 f4 => ?_
  rw [eN]
  obtain ⟨kA2, comp2, -, -, -, h3⟩ := (hK.2 4 (κ.2.2.1 4, .object "ChainHouse$Node") rfl).2
  have h4 : κ.2.2.1 4 = cA := Option.some.inj (h3.symm.trans f1)
  generalize hH1 : H.push ({ cls := cA, slots := Array.replicate n .null, vm := .none } : Cell) = H1
  have z1 : H1.size = H.size + 1 := by rw [← hH1, Array.size_push]
  have e1 : H1[H.size]? = some (arrV cA n (fun _ => .null)) := by rw [← hH1, Array.getElem?_push_size, ← arrV_new]
  have o1 : ∀ q : Nat, q < H.size → H1[q]? = H[q]? := fun q hq => by rw [← hH1, Array.getElem?_push, if_neg (Nat.ne_of_lt hq)]
  have he : va_at κ.2.1 hz_kl (κ.2.2.2.1 z, hz_re κ (.inl (4, n, .inr (.inr (.inr (.inr (fun _ => none))))))) H1 := by
    rw [ez]
    show H1[H.size]? = some (vp_cell (κ.2.2.1 4) (n, .inr (.inr (.inr (.inr (fun _ => none))))))
    rw [h4, vp_cell_q]
    exact e1
  have hwd1 := hwd.new hw he trivial z1 o1
  have hS1 : va_S (hz_A κ) s.heap H1 locs := ⟨Nat.le_trans hS.1 (by omega), fun y h1 h2 => (o1 y (Nat.lt_of_lt_of_le h1 hS.1)).trans (hS.2.1 y h1 h2), hS.2.2⟩
  have q := kk p e s m args below meth c H1 locs ls F hwd1 hS1 hl
  have eq9 : (Value.ref z :: st).map (hz_rv κ) = Value.ref H.size :: st.map (hz_rv κ) := by
    show Value.ref (κ.2.2.2.1 z) :: st.map (hz_rv κ) = _
    rw [ez]
  rw [eq9] at q
  exact q
end HZQ
