/-! tick: the pure side, the class -/
/-- what holds of a house -/
def hoX (H : ho_H) : Prop := (∀ v, v < (hoN H).length → ksI (ndL (hoN H) v).1) ∧ dlX (hoD H) ∧ ∀ m ∈ (hoQ H).1, msG (hoN H).length m
def tk1 : Nat → ho_H → Nat → ho_H × Nat
  | 0, H, c => (H, c)
  | f + 1, H, c => match (nxR (hoN H) (hoW H) 200 (hoQ H)).2 with
    | none => (hoq H (nxR (hoN H) (hoW H) 200 (hoQ H)).1, c)
    | some m => tk1 f (arS (hoq H (nxR (hoN H) (hoW H) 200 (hoQ H)).1) m) (c + 1)
def tkE (H : ho_H) : ho_H := if hoW H - hoW H / (nI 8) * (nI 8) = 0 then hoq H (ttQ (hoN H) (hoD H) (hoW H) (hoN H).length (hoQ H)) else H
def how (H : ho_H) : ho_H := (hoN H, hoQ H, hoW H + 1, hoD H, hoT H, hoI H, hoU H, hoE H)
def tkN : Nat → ho_H → Nat → ho_H × Nat
  | 0, H, c => (H, c)
  | n + 1, H, c => tkN n (tkE (tk1 200 (how H) c).1) (tk1 200 (how H) c).2
theorem nxR_I {ns : List nd_N} {now : Int32} : ∀ f (s : mq_S), (∀ m ∈ s.1, msG ns.length m) → (∀ m ∈ (nxR ns now f s).1.1, msG ns.length m) ∧ ∀ m, (nxR ns now f s).2 = some m → msG ns.length m ∧ (ndL ns (rcvI m)).2.1 = true := by
  intro f
  induction f with
  | zero => intro s h; exact ⟨h, fun m hm => nomatch hm⟩
  | succ f ih =>
    intro s h
    unfold nxR
    split
    · rename_i c
      split
      · rename_i u
        refine ⟨fun m hm => h m (List.mem_of_mem_eraseIdx hm), fun m hm => ?_⟩
        cases hm
        exact ⟨h _ (msL_mem c), u⟩
      · exact ih (s.1.eraseIdx (nwF s.1 now), s.2 + 1) (fun m hm => h m (List.mem_of_mem_eraseIdx hm))
    · exact ⟨h, fun m hm => nomatch hm⟩
theorem rvS_I {nn : Nat} {dl : Nat → Nat} {now fr : Int32} {v d kd : Nat} {S : ks_S} {l : by_L} (h : ksI S) : ksI (rvS nn dl now v fr d S kd l).1 := by
  unfold rvS
  split
  · exact tkB_I h
  · split
    · exact tkT_I h
    · exact ksq_I h
theorem msG.bs {nn : Nat} {m : ms_M} (h : msG nn m) (hnn : nn ≤ 6) : sdI m < nn ∧ m.1 = nI (sdI m) ∧ rcvI m < nn ∧ m.2.1 = nI (rcvI m) ∧ 1 ≤ kdI m ∧ kdI m ≤ 6 ∧ m.2.2.1 = nI (kdI m) ∧ m.2.2.2.2.length ≤ 4000 := by
  obtain ⟨⟨a, a1, a2⟩, ⟨b, b1, b2⟩, ⟨k, k1, k2, k3⟩, h4⟩ := h
  rw [sdI_n a2 (by omega), rcvI_n b2 (by omega), kdI_n k3 (by omega)]
  exact ⟨a1, a2, b1, b2, k1, k2, k3, h4⟩
theorem arS_X {H : ho_H} {m : ms_M} (h : hoX H) (hnn : (hoN H).length ≤ 6) (hm : msG (hoN H).length m) : hoX (arS H m) ∧ (hoN (arS H m)).length = (hoN H).length := by
  obtain ⟨s1, s2, s3, s4, s5, s6, s7, s8⟩ := hm.bs hnn
  have hl : (hoN (arS H m)).length = (hoN H).length := List.length_set
  refine ⟨⟨fun v hv => ?_, h.2.1, fun x hx => ?_⟩, hl⟩
  · rw [hl] at hv
    rw [show ndL (hoN (arS H m)) v = if v = rcvI m then arN H m else ndL (hoN H) v from ndL_set s3 v]
    split
    · exact rvS_I (ksq_I (h.1 _ s3))
    · exact h.1 v hv
  · rw [hl]
    have q : qE (hoN H).length (hoW H) (hoQ H) (ksQ (arV H m).1) := rvS_E hnn s3 h.2.1 (Or.inl ⟨sdI m, s1, s2, rfl⟩) (ksq_I (h.1 _ s3)) s8
    obtain ⟨ex, e1, e2⟩ := q
    have hx2 : x ∈ (ksQ (arV H m).1).1 := hx
    rw [e1] at hx2
    rcases List.mem_append.mp hx2 with c | c
    · exact h.2.2 x c
    · exact (e2 x c).1
theorem hoq_X {H : ho_H} {s : mq_S} (h : hoX H) (hs : ∀ m ∈ s.1, msG (hoN H).length m) : hoX (hoq H s) := ⟨h.1, h.2.1, hs⟩
theorem ttQ_E {ns : List nd_N} {dl : Nat → Nat} {now : Int32} {s : mq_S} (hnn : ns.length ≤ 6) (hd : dlX dl) : ∀ n, n ≤ ns.length → qE ns.length now s (ttQ ns dl now n s) := by
  intro n
  induction n with
  | zero => intro _; exact qE.rf
  | succ n ih =>
    intro hn
    have q := ih (by omega)
    unfold ttQ
    split
    · exact q.tr (tlQ_E hnn (by omega) hd (by decide) (by decide) (by rw [haS_len]; decide) _ (Nat.le_refl _))
    · exact q
theorem qE.G {nn : Nat} {now : Int32} {s s2 : mq_S} (h : qE nn now s s2) (hs : ∀ m ∈ s.1, msG nn m) : ∀ m ∈ s2.1, msG nn m := by
  obtain ⟨ex, e1, e2⟩ := h
  intro m hm
  rw [e1] at hm
  rcases List.mem_append.mp hm with c | c
  · exact hs m c
  · exact (e2 m c).1
theorem tkE_X {H : ho_H} (h : hoX H) (hnn : (hoN H).length ≤ 6) : hoX (tkE H) ∧ (hoN (tkE H)).length = (hoN H).length := by
  unfold tkE
  split
  · exact ⟨hoq_X h ((ttQ_E hnn h.2.1 _ (Nat.le_refl _)).G h.2.2), rfl⟩
  · exact ⟨h, rfl⟩
theorem tk1_n {f c : Nat} {H : ho_H} (e : (nxR (hoN H) (hoW H) 200 (hoQ H)).2 = none) : tk1 (f + 1) H c = (hoq H (nxR (hoN H) (hoW H) 200 (hoQ H)).1, c) := by simp only [tk1]; rw [e]
theorem tk1_s {f c : Nat} {H : ho_H} {m : ms_M} (e : (nxR (hoN H) (hoW H) 200 (hoQ H)).2 = some m) : tk1 (f + 1) H c = tk1 f (arS (hoq H (nxR (hoN H) (hoW H) 200 (hoQ H)).1) m) (c + 1) := by simp only [tk1]; rw [e]
theorem nxV_n : nxV none = some Value.null := rfl
theorem nxV_s (m : ms_M) : nxV (some m) = some (Value.ref (63 + 34 * rcvI m)) := rfl
theorem tk1_X : ∀ f (H : ho_H) c, hoX H → (hoN H).length ≤ 6 → hoX (tk1 f H c).1 ∧ (hoN (tk1 f H c).1).length = (hoN H).length := by
  intro f
  induction f with
  | zero => intro H c h _; exact ⟨h, rfl⟩
  | succ f ih =>
    intro H c h hnn
    have q := nxR_I (now := hoW H) 200 (hoQ H) h.2.2
    cases e : (nxR (hoN H) (hoW H) 200 (hoQ H)).2 with
    | none => rw [tk1_n e]; exact ⟨hoq_X h q.1, rfl⟩
    | some m =>
      rw [tk1_s e]
      have r := q.2 m e
      have a := arS_X (hoq_X h q.1) hnn r.1
      have t := ih _ (c + 1) a.1 (by rw [a.2]; exact hnn)
      exact ⟨t.1, t.2.trans a.2⟩
theorem frS.ho {M M2 : hz_M} {b nn : Nat} (hb : b < nn) (f : frS [(9, 39), (45, 54), (57, 62), (63 + 34 * b, 63 + 34 * b + 34)] M M2) : frS [(8, 63 + 34 * nn)] M M2 := f.mono (fun q h9 => by have r : q < 8 ∨ 63 + 34 * nn ≤ q := h9.1; exact ⟨by omega, by omega, by omega, by omega, trivial⟩)
set_option maxHeartbeats 4000000 in
set_option maxRecDepth 100000 in
theorem c_tk_i {κ : hz_C} {z nn : Nat} {M : hz_M} (hz : 63 + 34 * nn ≤ z) (hnn : nn ≤ 6) {tt nt : Nat} {P : hz_P} {R : ho_H × Nat} (K : ∀ M2 ll fr kn, frS [(8, 63 + 34 * nn)] M M2 → hcR M2 z R.1 ll fr kn → hz_W κ xX11_tick 17 0 0 P 0 0 146 [(2, .int (nI (R.2))), (3, .int (nI tt)), (0, .ref 8), (1, .int (nI nt))] [] z M2) : ∀ k i H c M2 ll fr kn, k = 200 - i → i ≤ 200 → frS [(8, 63 + 34 * nn)] M M2 → hcR M2 z H ll fr kn → hoX H → (hoN H).length = nn → R = tk1 k H c → hz_W κ xX11_tick 17 0 0 P 0 0 38 [(4, .int (nI i)), (2, .int (nI c)), (3, .int (nI tt)), (0, .ref 8), (1, .int (nI nt))] [] z M2 := by
  intro k
  induction k with
  | zero =>
    intro i H c M2 ll fr kn hk hi hf hR hX hl hE
    refine hz_iload (pc := 38) 0 (hz_dec kX11_tick 24 rfl) rfl ?_
    refine hz_sipush (pc := 40) (v := nI 200) (hz_dec kX11_tick 25 rfl) (by decide) ?_
    refine hz_n_ge (pc := 43) (tgt := 146) (hz_dec kX11_tick 26 rfl) (by decide) (by omega) (by omega) (fun h1 => ?_) (fun h1 => ?_)
    · skip
      refine hz_pick (pc := 146) [1, 2, 3, 4] rfl ?_
      have e2 : R = (H, c) := hE
      subst e2
      exact K M2 ll fr kn hf hR
    · skip
      exact absurd h1 (by omega)
  | succ k ih =>
    intro i H c M2 ll fr kn hk hi hf hR hX hl hE
    have hq := nxR_I (now := hoW H) 200 (hoQ H) hX.2.2
    have hH := hR.1
    refine hz_iload (pc := 38) 0 (hz_dec kX11_tick 24 rfl) rfl ?_
    refine hz_sipush (pc := 40) (v := nI 200) (hz_dec kX11_tick 25 rfl) (by decide) ?_
    refine hz_n_ge (pc := 43) (tgt := 146) (hz_dec kX11_tick 26 rfl) (by decide) (by omega) (by omega) (fun h1 => ?_) (fun h1 => ?_)
    · skip
      exact absurd h1 (by omega)
    · skip
      refine hz_aloadn (pc := 46) 3 (hz_dec kX11_tick 27 rfl) rfl ?_
      have hc := c_nx (κ := κ) (H := H) (s0 := hoQ H) (by omega) (by omega) hR hX.2.2
      cases e9 : (nxR (hoN H) (hoW H) 200 (hoQ H)).2 with
      | none =>
        rw [e9, nxV_n] at hc
        refine hz_callV (pc := 47) (a := 8) (As := []) (st := []) (hz_dec kX11_tick 28 rfl) co_X11_323 im_X11_nextReceiver se_X11_nextReceiver rfl hH (by omega) (by omega) (hc) rfl (by decide) ⟨Nat.le_refl _, Nat.le_refl _⟩ (Nat.le_of_ble_eq_true rfl) rfl (fun r9 z9 M3 hp9 => ?_)
        obtain ⟨rfl, rfl, hf3, ll3, fr3, kn3, hR3, -⟩ := hp9
        refine hz_astoreN (pc := 50) (i := 5) (lo2 := [(5, .null), (4, .int (nI i)), (2, .int (nI c)), (3, .int (nI tt)), (0, .ref 8), (1, .int (nI nt))]) (hz_dec kX11_tick 29 rfl) (by decide) rfl ?_
        refine hz_aloadN (pc := 52) 0 (hz_dec kX11_tick 30 rfl) rfl ?_
        refine hz_ifnonnullN (pc := 54) (hz_dec kX11_tick 31 rfl) ?_
        refine hz_goto (pc := 57) (tgt := 146) (hz_dec kX11_tick 32 rfl) (by decide) ?_
        refine hz_pick (pc := 146) [2, 3, 4, 5] rfl ?_
        have e2 : R = (hoq H (nxR (hoN H) (hoW H) 200 (hoQ H)).1, c) := hE.trans (tk1_n e9)
        subst e2
        exact K M3 ll3 fr3 kn3 (hf.tr (hf3.mono (fun q (h9 : outS [(8, 63 + 34 * nn)] q) => ⟨by have r := h9.1; omega, trivial⟩))) hR3
      | some m =>
        have hm := hq.2 m e9
        obtain ⟨s1, s2, s3, s4, s5, s6, s7, s8⟩ := hm.1.bs (by omega)
        rw [e9, nxV_s] at hc
        refine hz_callV (pc := 47) (a := 8) (As := []) (st := []) (hz_dec kX11_tick 28 rfl) co_X11_323 im_X11_nextReceiver se_X11_nextReceiver rfl hH (by omega) (by omega) (hc) rfl (by decide) ⟨Nat.le_refl _, Nat.le_refl _⟩ (Nat.le_of_ble_eq_true rfl) rfl (fun r9 z9 M3 hp9 => ?_)
        obtain ⟨rfl, rfl, hf3, ll3, fr3, kn3, hR3, hmm⟩ := hp9
        obtain ⟨q1, q2, q3, g3, hg3, hA3⟩ := hmm m rfl
        subst q1 q2
        rw [s7] at q3
        have hf13 := hf.tr (hf3.mono (fun q (h9 : outS [(8, 63 + 34 * nn)] q) => ⟨by have r := h9.1; omega, trivial⟩))
        refine hz_astore (pc := 50) (i := 5) (lo2 := [(5, .ref (63 + 34 * rcvI m)), (4, .int (nI i)), (2, .int (nI c)), (3, .int (nI tt)), (0, .ref 8), (1, .int (nI nt))]) (hz_dec kX11_tick 29 rfl) (by decide) rfl ?_
        refine hz_aload (pc := 52) 0 (hz_dec kX11_tick 30 rfl) rfl ?_
        refine hz_ifnonnull (pc := 54) (tgt := 60) (hz_dec kX11_tick 31 rfl) (by decide) ?_
        refine hz_pick (pc := 60) [0, 2, 1, 3, 4, 5] rfl ?_
        have hX3 := hoq_X hX hq.1
        have ha := arS_X hX3 (show (hoN H).length ≤ 6 by omega) hm.1
        have eR : R = tk1 k (arS (hoq H (nxR (hoN H) (hoW H) 200 (hoQ H)).1) m) (c + 1) := hE.trans (tk1_s e9)
        have hK1 : kdI m = 1 → hcR M3 z (hoq H (nxR (hoN H) (hoW H) 200 (hoQ H)).1) m.2.2.2.2.length m.1 (nI 1) := fun e => by rw [← e, ← q3]; exact hR3
        have hK2 : kdI m = 2 → hcR M3 z (hoq H (nxR (hoN H) (hoW H) 200 (hoQ H)).1) m.2.2.2.2.length m.1 (nI 2) := fun e => by rw [← e, ← q3]; exact hR3
        have hK3 : kdI m = 3 → hcR M3 z (hoq H (nxR (hoN H) (hoW H) 200 (hoQ H)).1) m.2.2.2.2.length m.1 (nI 3) := fun e => by rw [← e, ← q3]; exact hR3
        have hK4 : kdI m = 4 → hcR M3 z (hoq H (nxR (hoN H) (hoW H) 200 (hoQ H)).1) m.2.2.2.2.length m.1 (nI 4) := fun e => by rw [← e, ← q3]; exact hR3
        have hK5 : kdI m = 5 → hcR M3 z (hoq H (nxR (hoN H) (hoW H) 200 (hoQ H)).1) m.2.2.2.2.length m.1 (nI 5) := fun e => by rw [← e, ← q3]; exact hR3
        have hK6 : kdI m = 6 → hcR M3 z (hoq H (nxR (hoN H) (hoW H) 200 (hoQ H)).1) m.2.2.2.2.length m.1 (nI 6) := fun e => by rw [← e, ← q3]; exact hR3
        have KK : ∀ M4 ll2 fr2 kn2, frS [(9, 39), (45, 54), (57, 62), (63 + 34 * rcvI m, 63 + 34 * rcvI m + 34)] M3 M4 → hcR M4 z (arS (hoq H (nxR (hoN H) (hoW H) 200 (hoQ H)).1) m) ll2 fr2 kn2 → hz_W κ xX11_tick 17 0 0 P 0 0 140 [(2, .int (nI (c + 1))), (4, .int (nI i)), (3, .int (nI tt)), (0, .ref 8), (1, .int (nI nt))] [] z M4 := by
          intro M4 ll2 fr2 kn2 hf4 hR4
          refine hz_incN (pc := 140) (i := 4) (lo2 := [(4, .int (nI (i + 1))), (2, .int (nI (c + 1))), (3, .int (nI tt)), (0, .ref 8), (1, .int (nI nt))]) 1 (hz_dec kX11_tick 71 rfl) rfl (by decide) rfl ?_
          refine hz_goto (pc := 143) (tgt := 38) (hz_dec kX11_tick 72 rfl) (by decide) ?_
          refine hz_pick (pc := 38) [0, 1, 2, 3, 4] rfl ?_
          exact ih (i + 1) _ (c + 1) M4 ll2 fr2 kn2 (by omega) (by omega) (hf13.tr (hf4.ho (by omega))) hR4 ha.1 (ha.2.trans hl) eR
        rcases (show kdI m = 1 ∨ kdI m = 2 ∨ kdI m = 3 ∨ kdI m = 4 ∨ kdI m = 5 ∨ kdI m = 6 by omega) with e | e | e | e | e | e
        · exact c_arr1 (H := hoq H (nxR (hoN H) (hoW H) 200 (hoQ H)).1) (by rw [← hl] at hz; exact hz) (show (hoN H).length ≤ 6 by omega) (hK1 e) hg3 hA3 s2 s1 rfl s3 e s8 hm.2 (hX.1 _ s3) KK
        · exact c_arr2 (H := hoq H (nxR (hoN H) (hoW H) 200 (hoQ H)).1) (by rw [← hl] at hz; exact hz) (show (hoN H).length ≤ 6 by omega) (hK2 e) hg3 hA3 s2 s1 rfl s3 e s8 hm.2 (hX.1 _ s3) KK
        · exact c_arr3 (H := hoq H (nxR (hoN H) (hoW H) 200 (hoQ H)).1) (by rw [← hl] at hz; exact hz) (show (hoN H).length ≤ 6 by omega) (hK3 e) hg3 hA3 s2 s1 rfl s3 e s8 hm.2 (hX.1 _ s3) KK
        · exact c_arr4 (H := hoq H (nxR (hoN H) (hoW H) 200 (hoQ H)).1) (by rw [← hl] at hz; exact hz) (show (hoN H).length ≤ 6 by omega) (hK4 e) hg3 hA3 s2 s1 rfl s3 e s8 hm.2 (hX.1 _ s3) KK
        · exact c_arr5 (H := hoq H (nxR (hoN H) (hoW H) 200 (hoQ H)).1) (by rw [← hl] at hz; exact hz) (show (hoN H).length ≤ 6 by omega) (hK5 e) hg3 hA3 s2 s1 rfl s3 e s8 hm.2 (hX.1 _ s3) KK
        · exact c_arr6 (H := hoq H (nxR (hoN H) (hoW H) 200 (hoQ H)).1) (by rw [← hl] at hz; exact hz) (show (hoN H).length ≤ 6 by omega) (hK6 e) hg3 hA3 s2 s1 rfl s3 e s8 hm.2 (hX.1 _ s3) KK
