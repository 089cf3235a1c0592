/-! nodeOf, nextReceiver -/
theorem hz_astoreN {κ : hz_C} {x : hz_X} {d mc ms : Nat} {P : hz_P} {cn sn pc : Nat} {lo : List (Nat × Value)} {st : List Value} {z : Nat} {M : hz_M} {i : Nat} {lo2 : List (Nat × Value)} (hd : decode x.2.1 pc = .ok (.astore i, 2)) (hn : i < x.2.2.1) (hlo : (i, Value.null) :: lo.filter (fun q => !(q.1 == i) && !(q.1 + 1 == i && q.2.category == 2)) = lo2) (k : hz_W κ x d mc ms P cn sn (pc + 2) lo2 (st) z M) : hz_W κ x d mc ms P cn sn (pc) lo (.null :: st) z M := by
  intro p e s m args below meth c H locs ls F hwd hS hl
  subst hlo
  refine lv_astoreN F.1 F.2.1 hd hl hn (lv' := ((i, Value.null) :: lo.filter (fun q => !(q.1 == i) && !(q.1 + 1 == i && q.2.category == 2))).map (fun q => (q.1, hz_rv κ q.2))) ?_ (fun ls2 hl2 => k p e s m args below meth c H locs ls2 F hwd hS hl2)
  rw [hz_fil1]; rfl
theorem hz_astorenN {κ : hz_C} {x : hz_X} {d mc ms : Nat} {P : hz_P} {cn sn pc : Nat} {lo : List (Nat × Value)} {st : List Value} {z : Nat} {M : hz_M} {kk : Fin 4} {i : Nat} {lo2 : List (Nat × Value)} (hd : decode x.2.1 pc = .ok (.astore_n kk, 1)) (hi : (kk : Nat) = i) (hn : i < x.2.2.1) (hlo : (i, Value.null) :: lo.filter (fun q => !(q.1 == i) && !(q.1 + 1 == i && q.2.category == 2)) = lo2) (k : hz_W κ x d mc ms P cn sn (pc + 1) lo2 (st) z M) : hz_W κ x d mc ms P cn sn (pc) lo (.null :: st) z M := by
  intro p e s m args below meth c H locs ls F hwd hS hl
  subst hlo
  refine lv_astore_nN F.1 F.2.1 hd hi hl hn (lv' := ((i, Value.null) :: lo.filter (fun q => !(q.1 == i) && !(q.1 + 1 == i && q.2.category == 2))).map (fun q => (q.1, hz_rv κ q.2))) ?_ (fun ls2 hl2 => k p e s m args below meth c H locs ls2 F hwd hS hl2)
  rw [hz_fil1]; rfl
/-- the queue of a house -/
def hoq (H : ho_H) (s : mq_S) : ho_H := (hoN H, s, hoW H, hoD H, hoT H, hoI H, hoU H, hoE H)
theorem hcR.q {M M2 : hz_M} {z : Nat} {H : ho_H} {ll ll2 : Nat} {fr kn fr2 kn2 : Int32} {s : mq_S} (h : hcR M z H ll fr kn) (f : frS [(45, 54)] M M2) (h45 : M2 45 = mlO (hoN H).length (hoW H) s.2 ll2 fr2 kn2) (hQ : mlQ M2 s.1) (h53 : ∃ g : Nat → Int32, M2 53 = .inl (1, 4000, .inl g)) : hcR M2 z (hoq H s) ll2 fr2 kn2 := by
  obtain ⟨h1, ⟨fN, n1, n2⟩, h3, h4, ⟨-, -, fd, d1, d2⟩, h6, ⟨L, h7⟩, ⟨g8, h8⟩, ⟨g9, h9⟩, ⟨g56, h56, hT56⟩, hdf⟩ := h
  exact ⟨(f.at1 (by omega)).trans h1, ⟨fN, (f.at1 (by omega)).trans n1, n2⟩, fun v hv => (h3 v hv).fr (fun q q1 q2 => f.at1 (by omega)), h4.al (fun q q1 q2 => f.at1 (by omega)), ⟨h45, hQ, fd, (f.at1 (by omega)).trans d1, d2⟩, h53, ⟨L, h7.fr (fun q q1 q2 => f.at1 (by omega))⟩, ⟨g8, (f.at1 (by omega)).trans h8⟩, ⟨g9, (f.at1 (by omega)).trans h9⟩, ⟨g56, (f.at1 (by omega)).trans h56, hT56⟩, hdf.fr (fun q q1 q2 => f.at1 (by omega))⟩
/-- who receives -/
def rcvI (m : ms_M) : Nat := m.2.1.toInt.toNat
theorem rcvI_n {m : ms_M} {b : Nat} (h : m.2.1 = nI b) (hb : b < 1000) : rcvI m = b := by
  unfold rcvI
  rw [h, nI_toInt (show b < 2 ^ 31 by omega)]
  rfl
/-- the next message for a node that is up -/
def nxR (ns : List nd_N) (now : Int32) : Nat → mq_S → mq_S × Option ms_M
  | 0, s => (s, none)
  | f + 1, s => if nwF s.1 now < s.1.length then (if (ndL ns (rcvI (msL s.1 (nwF s.1 now)))).2.1 = true then ((s.1.eraseIdx (nwF s.1 now), s.2), some (msL s.1 (nwF s.1 now))) else nxR ns now f (s.1.eraseIdx (nwF s.1 now), s.2 + 1)) else (s, none)
def nxV : Option ms_M → Option Value
  | none => some .null
  | some m => some (.ref (63 + 34 * rcvI m))
theorem msL_mem {q : List ms_M} {k : Nat} (h : k < q.length) : msL q k ∈ q := by
  unfold msL
  rw [List.getD_eq_getElem?_getD, List.getElem?_eq_getElem h]
  exact List.getElem_mem h
set_option maxHeartbeats 4000000 in
set_option maxRecDepth 100000 in
theorem c_nOf {κ : hz_C} {z : Nat} {M : hz_M} (hz : 63 ≤ z) {tl : Nat} {tr : Int32} (hH : M 8 = hoO tl tr) {nn : Nat} (hnn : nn ≤ 6) (hNs : nsR M nn) {b : Nat} (hb : b < nn) : hz_Mt κ xX11_nodeOf 0 0 0 [.ref 8, .int (nI b)] z M (hz_ex (some (.ref (63 + 34 * b))) z M) := by
  refine hz_ent (lo := [(0, .ref 8), (1, .int (nI b))]) (by decide) (Nat.le_of_ble_eq_true rfl) rfl ?_
  obtain ⟨fN, h55, hfN⟩ := id hNs
  refine hz_iloadn (pc := 0) 1 (hz_dec kX11_nodeOf 0 rfl) rfl ?_
  refine hz_z_lt (pc := 1) (tgt := 13) (hz_dec kX11_nodeOf 1 rfl) (by decide) (by omega) ?_
  refine hz_iloadn (pc := 4) 1 (hz_dec kX11_nodeOf 2 rfl) rfl ?_
  refine hz_aloadn (pc := 5) 0 (hz_dec kX11_nodeOf 3 rfl) rfl ?_
  refine hz_get (pc := 6) (hz_dec kX11_nodeOf 4 rfl) fo_X11_68 hH (by omega) (by omega) rfl ?_
  refine hz_alen (pc := 9) (hz_dec kX11_nodeOf 5 rfl) h55 (by decide) (by omega) (by omega) ?_
  refine hz_n_lt (pc := 10) (tgt := 17) (hz_dec kX11_nodeOf 6 rfl) (by decide) (by omega) (by omega) (fun h2 => ?_) (fun h2 => ?_)
  · skip
    refine hz_aloadn (pc := 17) 0 (hz_dec kX11_nodeOf 9 rfl) rfl ?_
    refine hz_get (pc := 18) (hz_dec kX11_nodeOf 10 rfl) fo_X11_68 hH (by omega) (by omega) rfl ?_
    refine hz_iloadn (pc := 21) 1 (hz_dec kX11_nodeOf 11 rfl) rfl ?_
    refine hz_aald (pc := 22) (j := b) (r := 63 + 34 * b) (hz_dec kX11_nodeOf 12 rfl) h55 (by omega) (by omega) rfl (by omega) (by omega) (hfN b hb) ?_
    exact hz_aret (pc := 23) (hz_dec kX11_nodeOf 13 rfl) rfl (Or.inr ⟨_, rfl⟩) ⟨rfl, rfl, rfl⟩
  · skip
    exact absurd h2 (by omega)
set_option maxHeartbeats 4000000 in
set_option maxRecDepth 100000 in
theorem c_nOfN {κ : hz_C} {z : Nat} {M : hz_M} (hz : 63 ≤ z) {tl : Nat} {tr : Int32} (hH : M 8 = hoO tl tr) {nn : Nat} (hnn : nn ≤ 6) (hNs : nsR M nn) {b : Int32} (hb : b < 0 ∨ ¬ b < nI nn) : hz_Mt κ xX11_nodeOf 0 0 0 [.ref 8, .int b] z M (hz_ex (some .null) z M) := by
  refine hz_ent (lo := [(0, .ref 8), (1, .int b)]) (by decide) (Nat.le_of_ble_eq_true rfl) rfl ?_
  obtain ⟨fN, h55, hfN⟩ := id hNs
  refine hz_iloadn (pc := 0) 1 (hz_dec kX11_nodeOf 0 rfl) rfl ?_
  refine hz_if_lt (pc := 1) (tgt := 13) (hz_dec kX11_nodeOf 1 rfl) (by decide) (fun h1 => ?_) (fun h1 => ?_)
  · skip
    refine hz_null (pc := 13) (hz_dec kX11_nodeOf 7 rfl) ?_
    refine hz_goto (pc := 14) (tgt := 23) (hz_dec kX11_nodeOf 8 rfl) (by decide) ?_
    exact hz_aret (pc := 23) (hz_dec kX11_nodeOf 13 rfl) rfl (Or.inl rfl) ⟨rfl, rfl, rfl⟩
  · skip
    refine hz_iloadn (pc := 4) 1 (hz_dec kX11_nodeOf 2 rfl) rfl ?_
    refine hz_aloadn (pc := 5) 0 (hz_dec kX11_nodeOf 3 rfl) rfl ?_
    refine hz_get (pc := 6) (hz_dec kX11_nodeOf 4 rfl) fo_X11_68 hH (by omega) (by omega) rfl ?_
    refine hz_alen (pc := 9) (hz_dec kX11_nodeOf 5 rfl) h55 (by decide) (by omega) (by omega) ?_
    refine hz_icmp_lt (pc := 10) (tgt := 17) (hz_dec kX11_nodeOf 6 rfl) (by decide) (fun h2 => ?_) (fun h2 => ?_)
    · skip
      exact absurd h2 (hb.resolve_left h1)
    · skip
      refine hz_null (pc := 13) (hz_dec kX11_nodeOf 7 rfl) ?_
      refine hz_goto (pc := 14) (tgt := 23) (hz_dec kX11_nodeOf 8 rfl) (by decide) ?_
      exact hz_aret (pc := 23) (hz_dec kX11_nodeOf 13 rfl) rfl (Or.inl rfl) ⟨rfl, rfl, rfl⟩
set_option maxHeartbeats 4000000 in
set_option maxRecDepth 100000 in
theorem c_nx_l {κ : hz_C} {z : Nat} {M : hz_M} {H : ho_H} (hz : 63 + 34 * (hoN H).length ≤ z) (hnn : (hoN H).length ≤ 6) {s0 : mq_S} : ∀ k i s M2 ll fr kn, k = 200 - i → i ≤ 200 → frS [(45, 54)] M M2 → hcR M2 z (hoq H s) ll fr kn → (∀ m ∈ s.1, msG (hoN H).length m) → (nxR (hoN H) (hoW H) 200 s0) = nxR (hoN H) (hoW H) k s → hz_W κ xX11_nextReceiver 4 0 0 (fun r z2 M3 => nxV (nxR (hoN H) (hoW H) 200 s0).2 = r ∧ z = z2 ∧ frS [(45, 54)] M M3 ∧ ∃ (ll : Nat) (fr kn : Int32), hcR M3 z (hoq H (nxR (hoN H) (hoW H) 200 s0).1) ll fr kn ∧ ∀ m, (nxR (hoN H) (hoW H) 200 s0).2 = some m → ll = m.2.2.2.2.length ∧ fr = m.1 ∧ kn = m.2.2.1 ∧ ∃ g : Nat → Int32, M3 53 = .inl (1, 4000, .inl g) ∧ isA g 0 m.2.2.2.2) 0 0 2 [(1, .int (nI i)), (0, .ref 8)] [] z M2 := by
  intro k
  induction k with
  | zero =>
    intro i s M2 ll fr kn hk hi hf hR hG hE
    refine hz_iloadn (pc := 2) 0 (hz_dec kX11_nextReceiver 2 rfl) rfl ?_
    refine hz_sipush (pc := 3) (v := nI 200) (hz_dec kX11_nextReceiver 3 rfl) (by decide) ?_
    refine hz_n_ge (pc := 6) (tgt := 77) (hz_dec kX11_nextReceiver 4 rfl) (by decide) (by omega) (by omega) (fun h1 => ?_) (fun h1 => ?_)
    · skip
      have eR : (nxR (hoN H) (hoW H) 200 s0) = (s, none) := hE
      refine hz_null (pc := 77) (hz_dec kX11_nextReceiver 41 rfl) ?_
      exact hz_aret (pc := 78) (hz_dec kX11_nextReceiver 42 rfl) rfl (Or.inl rfl) ⟨by rw [eR]; rfl, rfl, hf, ll, fr, kn, by rw [eR]; exact hR, fun m hm => by rw [eR] at hm; cases hm⟩
    · skip
      exact absurd h1 (by omega)
  | succ k ih =>
    intro i s M2 ll fr kn hk hi hf hR hG hE
    obtain ⟨hH, hNs, hNd, hJ, hml, ⟨g53, h53⟩, hrest⟩ := id hR
    obtain ⟨hO, hQ, hD⟩ := id hml
    obtain ⟨hrw, f1, f2, f3, f4, k49, k50, k51, k52, hmx⟩ := id hQ
    have hz63 : 63 ≤ z := by omega
    have hql : s.1.length ≤ 200 := by have q := hrw.2.1; rw [msB_len] at q; exact q
    refine hz_iloadn (pc := 2) 0 (hz_dec kX11_nextReceiver 2 rfl) rfl ?_
    refine hz_sipush (pc := 3) (v := nI 200) (hz_dec kX11_nextReceiver 3 rfl) (by decide) ?_
    refine hz_n_ge (pc := 6) (tgt := 77) (hz_dec kX11_nextReceiver 4 rfl) (by decide) (by omega) (by omega) (fun h1 => ?_) (fun h1 => ?_)
    · skip
      exact absurd h1 (by omega)
    · skip
      refine hz_aloadn (pc := 9) 1 (hz_dec kX11_nextReceiver 5 rfl) rfl ?_
      refine hz_get (pc := 10) (hz_dec kX11_nextReceiver 6 rfl) fo_X11_62 hH (by omega) (by omega) rfl ?_
      refine hz_xV (pc := 13) (a := 45) (As := []) (st := []) (hz_dec kX11_nextReceiver 7 rfl) co_X11_444 im_X5_firstNow se_X5_firstNow rfl hO (by omega) (by omega) (c_fnow hz63 hO hnn hQ) rfl (by decide) ⟨Nat.le_refl _, Nat.le_refl _⟩ (Nat.le_of_ble_eq_true rfl) rfl ?_
      by_cases ck : nwF s.1 (hoW H) < s.1.length
      · skip
        refine hz_eqi (pc := 16) (show _ = nI (nwF s.1 (hoW H)) from if_pos ck) ?_
        generalize hx : nwF s.1 (hoW H) = x at *
        have hm := hG _ (msL_mem ck)
        obtain ⟨-, ⟨b, hb, hb2⟩, -, hl4⟩ := id hm
        have hrb : rcvI (msL s.1 x) = b := rcvI_n hb2 (by omega)
        refine hz_istoren (pc := 16) (i := 2) (lo2 := [(2, .int (nI x)), (1, .int (nI i)), (0, .ref 8)]) (hz_dec kX11_nextReceiver 8 rfl) rfl (by decide) rfl ?_
        refine hz_iloadn (pc := 17) 0 (hz_dec kX11_nextReceiver 9 rfl) rfl ?_
        refine hz_z_ge (pc := 18) (tgt := 23) (hz_dec kX11_nextReceiver 10 rfl) (by decide) (by omega) ?_
        refine hz_aloadn (pc := 23) 2 (hz_dec kX11_nextReceiver 13 rfl) rfl ?_
        refine hz_aloadn (pc := 24) 2 (hz_dec kX11_nextReceiver 14 rfl) rfl ?_
        refine hz_get (pc := 25) (hz_dec kX11_nextReceiver 15 rfl) fo_X11_62 hH (by omega) (by omega) rfl ?_
        refine hz_get (pc := 28) (hz_dec kX11_nextReceiver 16 rfl) fo_X11_346 hO (by omega) (by omega) rfl ?_
        refine hz_iloadn (pc := 31) 0 (hz_dec kX11_nextReceiver 17 rfl) rfl ?_
        refine hz_iald (pc := 32) (j := x) (hz_dec kX11_nextReceiver 18 rfl) k50 (by omega) (by omega) rfl (by omega) (by omega) ?_
        refine hz_eqi (pc := 33) ((hmx x ck).2.1.trans hb2) ?_
        refine hz_xV (pc := 33) (a := 8) (As := [.int (nI b)]) (st := []) (hz_dec kX11_nextReceiver 19 rfl) co_X11_162 im_X11_nodeOf se_X11_nodeOf rfl hH (by omega) (by omega) (c_nOf hz63 hH hnn hNs hb) rfl (by decide) ⟨Nat.le_refl _, Nat.le_refl _⟩ (Nat.le_of_ble_eq_true rfl) rfl ?_
        refine hz_astoren (pc := 36) (i := 3) (lo2 := [(3, .ref (63 + 34 * b)), (2, .int (nI x)), (1, .int (nI i)), (0, .ref 8)]) (hz_dec kX11_nextReceiver 20 rfl) rfl (by decide) rfl ?_
        refine hz_aloadn (pc := 37) 3 (hz_dec kX11_nextReceiver 21 rfl) rfl ?_
        refine hz_get (pc := 38) (hz_dec kX11_nextReceiver 22 rfl) fo_X11_62 hH (by omega) (by omega) rfl ?_
        refine hz_iloadn (pc := 41) 1 (hz_dec kX11_nextReceiver 23 rfl) rfl ?_
        refine hz_callV (pc := 42) (a := 45) (As := [.int (nI x)]) (st := []) (hz_dec kX11_nextReceiver 24 rfl) co_X11_447 im_X5_fetch se_X5_fetch rfl hO (by omega) (by omega) (c_fetch hz63 hO hnn hQ ck h53 hl4) rfl (by decide) ⟨Nat.le_refl _, Nat.le_refl _⟩ (Nat.le_of_ble_eq_true rfl) rfl (fun r9 z9 M3 hp9 => ?_)
        obtain ⟨rfl, rfl, hf3, hO3, hQ3, g3, hg3, hA3⟩ := hp9
        have hf13 := hf.tr hf3
        have hR3 : hcR M3 z (hoq H (s.1.eraseIdx x, s.2)) (msL s.1 x).2.2.2.2.length (msL s.1 x).1 (msL s.1 x).2.2.1 := hcR.q (H := hoq H s) (s := (s.1.eraseIdx x, s.2)) hR hf3 hO3 hQ3 ⟨g3, hg3⟩
        have hN3 := (hR3.2.2.1 b hb).1
        have hH3 := hR3.1
        generalize hu : (ndL (hoN (hoq H (s.1.eraseIdx x, s.2))) b).2.1 = u at hN3
        refine hz_aloadn (pc := 45) 0 (hz_dec kX11_nextReceiver 25 rfl) rfl ?_
        refine hz_ifnull (pc := 46) (hz_dec kX11_nextReceiver 26 rfl) ?_
        refine hz_aloadn (pc := 49) 0 (hz_dec kX11_nextReceiver 27 rfl) rfl ?_
        refine hz_get (pc := 50) (hz_dec kX11_nextReceiver 28 rfl) fo_X11_166 hN3 (by omega) (by omega) rfl ?_
        refine hz_if_eq (pc := 53) (tgt := 58) (hz_dec kX11_nextReceiver 29 rfl) (by decide) (fun h3 => ?_) (fun h3 => ?_)
        · skip
          have hu0 := hz_b0 h3
          rw [hu0] at hu
          have eN : nxR (hoN H) (hoW H) (k + 1) s = nxR (hoN H) (hoW H) k (s.1.eraseIdx x, s.2 + 1) := by simp only [nxR]; rw [hx, if_pos ck, hrb]; exact if_neg (fun q => by have r : (ndL (hoN H) b).2.1 = false := hu; rw [r] at q; cases q)
          refine hz_aloadn (pc := 58) 3 (hz_dec kX11_nextReceiver 32 rfl) rfl ?_
          refine hz_get (pc := 59) (hz_dec kX11_nextReceiver 33 rfl) fo_X11_62 hH3 (by omega) (by omega) rfl ?_
          refine hz_dup (pc := 62) (hz_dec kX11_nextReceiver 34 rfl) rfl ?_
          refine hz_get (pc := 63) (hz_dec kX11_nextReceiver 35 rfl) fo_X11_383 hO3 (by omega) (by omega) rfl ?_
          refine hz_iconst (pc := 66) (v := nI 1) (hz_dec kX11_nextReceiver 36 rfl) (by decide) ?_
          refine hz_iadd (pc := 67) (hz_dec kX11_nextReceiver 37 rfl) ?_
          refine hz_puti (pc := 68) (hz_dec kX11_nextReceiver 38 rfl) fo_X11_383 ft_X5_8 hO3 (by omega) (by omega) (Nat.le_of_ble_eq_true rfl) ?_
          refine hz_mem (pc := 71) (M2 := (va_up M3 45 (.inr (5, [.ref 46, .ref 49, .ref 50, .ref 51, .ref 52, .int (nI ((hoN H).length)), .ref 54, .int (hoW H), .int ((s.2) + (nI (1))), .ref 53, .int (nI ((msL s.1 x).2.2.2.2.length)), .int ((msL s.1 x).1), .int ((msL s.1 x).2.2.1)])))) rfl ?_
          have hf4 : frS [(45, 54)] M3 (va_up M3 45 (.inr (5, [.ref 46, .ref 49, .ref 50, .ref 51, .ref 52, .int (nI ((hoN H).length)), .ref 54, .int (hoW H), .int ((s.2) + (nI (1))), .ref 53, .int (nI ((msL s.1 x).2.2.2.2.length)), .int ((msL s.1 x).1), .int ((msL s.1 x).2.2.1)]))) := fun q hq => va_up_ne _ _ (fun e => by have r := hq.1; omega)
          have hR4 : hcR (va_up M3 45 (.inr (5, [.ref 46, .ref 49, .ref 50, .ref 51, .ref 52, .int (nI ((hoN H).length)), .ref 54, .int (hoW H), .int ((s.2) + (nI (1))), .ref 53, .int (nI ((msL s.1 x).2.2.2.2.length)), .int ((msL s.1 x).1), .int ((msL s.1 x).2.2.1)]))) z (hoq H (s.1.eraseIdx x, s.2 + 1)) (msL s.1 x).2.2.2.2.length (msL s.1 x).1 (msL s.1 x).2.2.1 := hcR.q (H := hoq H (s.1.eraseIdx x, s.2)) (s := (s.1.eraseIdx x, s.2 + 1)) hR3 hf4 (va_up_self _ _ _) (hQ3.fr (fun q q1 q2 => va_up_ne _ _ (by omega))) ⟨g3, (va_up_ne _ _ (by decide)).trans hg3⟩
          generalize (va_up M3 45 (.inr (5, [.ref 46, .ref 49, .ref 50, .ref 51, .ref 52, .int (nI ((hoN H).length)), .ref 54, .int (hoW H), .int ((s.2) + (nI (1))), .ref 53, .int (nI ((msL s.1 x).2.2.2.2.length)), .int ((msL s.1 x).1), .int ((msL s.1 x).2.2.1)]))) = M4 at *
          refine hz_incN (pc := 71) (i := 1) (lo2 := [(1, .int (nI (i + 1))), (3, .ref (63 + 34 * b)), (2, .int (nI x)), (0, .ref 8)]) 2 (hz_dec kX11_nextReceiver 39 rfl) rfl (by decide) rfl ?_
          refine hz_goto (pc := 74) (tgt := 2) (hz_dec kX11_nextReceiver 40 rfl) (by decide) ?_
          refine hz_pick (pc := 2) [0, 3] rfl ?_
          exact ih (i + 1) _ M4 _ _ _ (by omega) (by omega) (hf13.tr hf4) hR4 (fun m h9 => hG m (List.mem_of_mem_eraseIdx h9)) (hE.trans eN)
        · skip
          have hu1 := hz_b1 h3
          rw [hu1] at hu
          have eR : (nxR (hoN H) (hoW H) 200 s0) = ((s.1.eraseIdx x, s.2), some (msL s.1 x)) := by rw [hE]; simp only [nxR]; rw [hx, if_pos ck, hrb]; exact if_pos hu
          refine hz_aloadn (pc := 56) 0 (hz_dec kX11_nextReceiver 30 rfl) rfl ?_
          exact hz_aret (pc := 57) (hz_dec kX11_nextReceiver 31 rfl) rfl (Or.inr ⟨_, rfl⟩) ⟨by rw [eR]; show some (Value.ref (63 + 34 * rcvI (msL s.1 x))) = _; rw [hrb], rfl, hf13, _, _, _, by rw [eR]; exact hR3, fun m h9 => by rw [eR] at h9; cases h9; exact ⟨rfl, rfl, rfl, g3, hg3, hA3⟩⟩
      · skip
        refine hz_eqi (pc := 16) (show _ = (-1 : Int32) from if_neg ck) ?_
        refine hz_istoren (pc := 16) (i := 2) (lo2 := [(2, .int (-1)), (1, .int (nI i)), (0, .ref 8)]) (hz_dec kX11_nextReceiver 8 rfl) rfl (by decide) rfl ?_
        refine hz_iloadn (pc := 17) 0 (hz_dec kX11_nextReceiver 9 rfl) rfl ?_
        refine hz_if_ge (pc := 18) (tgt := 23) (hz_dec kX11_nextReceiver 10 rfl) (by decide) (fun h2 => ?_) (fun h2 => ?_)
        · skip
          exact absurd h2 (by decide)
        · skip
          have eR : (nxR (hoN H) (hoW H) 200 s0) = (s, none) := by rw [hE]; simp only [nxR]; exact if_neg ck
          refine hz_null (pc := 21) (hz_dec kX11_nextReceiver 11 rfl) ?_
          exact hz_aret (pc := 22) (hz_dec kX11_nextReceiver 12 rfl) rfl (Or.inl rfl) ⟨by rw [eR]; rfl, rfl, hf, ll, fr, kn, by rw [eR]; exact hR, fun m hm => by rw [eR] at hm; cases hm⟩
set_option maxHeartbeats 4000000 in
set_option maxRecDepth 100000 in
theorem c_nx {κ : hz_C} {z : Nat} {M : hz_M} {H : ho_H} (hz : 63 + 34 * (hoN H).length ≤ z) (hnn : (hoN H).length ≤ 6) {s0 : mq_S} {ll : Nat} {fr kn : Int32} (hR : hcR M z (hoq H s0) ll fr kn) (hG : ∀ m ∈ s0.1, msG (hoN H).length m) : hz_Mt κ xX11_nextReceiver 4 0 0 [.ref 8] z M (fun r z2 M3 => nxV (nxR (hoN H) (hoW H) 200 s0).2 = r ∧ z = z2 ∧ frS [(45, 54)] M M3 ∧ ∃ (ll : Nat) (fr kn : Int32), hcR M3 z (hoq H (nxR (hoN H) (hoW H) 200 s0).1) ll fr kn ∧ ∀ m, (nxR (hoN H) (hoW H) 200 s0).2 = some m → ll = m.2.2.2.2.length ∧ fr = m.1 ∧ kn = m.2.2.1 ∧ ∃ g : Nat → Int32, M3 53 = .inl (1, 4000, .inl g) ∧ isA g 0 m.2.2.2.2) := by
  refine hz_ent (lo := [(0, .ref 8)]) (by decide) (Nat.le_of_ble_eq_true rfl) rfl ?_
  refine hz_iconst (pc := 0) (v := nI 0) (hz_dec kX11_nextReceiver 0 rfl) (by decide) ?_
  refine hz_istoren (pc := 1) (i := 1) (lo2 := [(1, .int (nI 0)), (0, .ref 8)]) (hz_dec kX11_nextReceiver 1 rfl) rfl (by decide) rfl ?_
  refine hz_pick (pc := 2) [0, 1] rfl ?_
  exact c_nx_l hz hnn 200 0 s0 M ll fr kn rfl (by omega) frS.rf hR hG rfl
