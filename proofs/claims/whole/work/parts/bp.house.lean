/-! the house: both sides -/
/-- a node: its state (the messages in it don't count), whether it is up, received, refused -/
abbrev nd_N : Type := ks_S × Bool × Int32 × Int32
def ndL (ns : List nd_N) (v : Nat) : nd_N := ns.getD v (([], 0, 0, none, fun _ => 0, [], [], ([], 0)), false, 0, 0)
theorem ndL_set {ns : List nd_N} {v : Nat} {N : nd_N} (hv : v < ns.length) (w : Nat) : ndL (ns.set v N) w = if w = v then N else ndL ns w := by
  unfold ndL
  rw [List.getD_eq_getElem?_getD, List.getD_eq_getElem?_getD]
  by_cases c : w = v
  · rw [c, List.getElem?_set_self hv, if_pos rfl]; rfl
  · rw [List.getElem?_set_ne (fun q => c q.symm), if_neg c]
/-- nodes, messages, the tick, delays, tape, draft's coins and outputs, tries -/
abbrev ho_H : Type := List nd_N × mq_S × Int32 × (Nat → Nat) × by_L × List di_I × List do_O × Int32
def hoN (H : ho_H) : List nd_N := H.1
def hoQ (H : ho_H) : mq_S := H.2.1
def hoW (H : ho_H) : Int32 := H.2.2.1
def hoD (H : ho_H) : Nat → Nat := H.2.2.2.1
def hoT (H : ho_H) : by_L := H.2.2.2.2.1
def hoI (H : ho_H) : List di_I := H.2.2.2.2.2.1
def hoU (H : ho_H) : List do_O := H.2.2.2.2.2.2.1
def hoE (H : ho_H) : Int32 := H.2.2.2.2.2.2.2
def hoS (H : ho_H) (v : Nat) (N : nd_N) (q : mq_S) : ho_H := ((hoN H).set v N, q, hoW H, hoD H, hoT H, hoI H, hoU H, hoE H)
def ndR (M : hz_M) (nb v : Nat) (N : nd_N) : Prop := M nb = ndO nb (nI v) (hz_b N.2.1) (nI (ksN N.1)) (pvI (ksF N.1)) N.2.2.1 N.2.2.2 ∧ (∃ g : Nat → Int32, M (nb + 1) = .inl (1, 12288, .inl g) ∧ ∀ j, j < 12288 → g j = ksD N.1 j) ∧ trR M (nb + 21) (ksB N.1) (ksT N.1) (enB (ksB N.1)) ∧ coR M (nb + 2) (coAt (ksB N.1) (enB (ksB N.1)) (ksT N.1)) ∧ plR M nb (ksP N.1) ∧ loR M nb (ksL N.1)
theorem ndR.fr {M M2 : hz_M} {nb v : Nat} {N : nd_N} (h : ndR M nb v N) (e : ∀ q, nb ≤ q → q < nb + 34 → M2 q = M q) : ndR M2 nb v N := by
  obtain ⟨h1, ⟨g, h2, h3⟩, h4, h5, h6, h7⟩ := h
  exact ⟨(e nb (by omega) (by omega)).trans h1, ⟨g, (e _ (by omega) (by omega)).trans h2, h3⟩, h4.fr (fun q q1 q2 => e q (by omega) (by omega)), h5.fr (fun q q1 q2 => e q (by omega) (by omega)), h6.fr (fun q q1 q2 => e q (by omega) (by omega)), h7.fr (fun q q1 q2 => e q (by omega) (by omega))⟩
/-- the class's house -/
def hcR (M : hz_M) (z : Nat) (H : ho_H) (ll : Nat) (fr kn : Int32) : Prop := M 8 = hoO (hoT H).length (hoE H) ∧ nsR M (hoN H).length ∧ (∀ v, v < (hoN H).length → ndR M (63 + 34 * v) v (ndL (hoN H) v)) ∧ juS M z ∧ mlR M (hoN H).length (hoW H) (hoQ H) (hoD H) ll fr kn ∧ (∃ g : Nat → Int32, M 53 = .inl (1, 4000, .inl g)) ∧ (∃ L, rwR M 58 5728 16 L) ∧ (∃ g : Nat → Int32, M 61 = .inl (0, 113, .inl g)) ∧ (∃ g : Nat → Int32, M 57 = .inl (1, 1280, .inl g)) ∧ (∃ g : Nat → Int32, M 56 = .inl (1, 4000, .inl g) ∧ isA g 0 (hoT H)) ∧ dfR M (hoI H) (hoU H)
theorem hcR.kc {M : hz_M} {z : Nat} {H : ho_H} {ll : Nat} {fr kn : Int32} (h : hcR M z H ll fr kn) {v : Nat} (hv : v < (hoN H).length) : kcR M z (63 + 34 * v) (hoN H).length v (hoT H).length (hoE H) (hoW H) fr kn (ndL (hoN H) v).2.2.1 (ndL (hoN H) v).2.2.2 (hz_b (ndL (hoN H) v).2.1) (hoD H) ll (ksq (ndL (hoN H) v).1 (hoQ H)) := by
  obtain ⟨h1, h2, h3, h4, h5, h6, h7, h8, h9, -⟩ := h
  obtain ⟨n1, n2, n3, n4, n5, n6⟩ := h3 v hv
  exact ⟨h1, h2, n1, n2, n3, n4, n5, n6, h4, h5, h6, h7, h8⟩
theorem dfR.fr {M M2 : hz_M} {li : List di_I} {lo : List do_O} (h : dfR M li lo) (e : ∀ q, 39 ≤ q → q < 45 → M2 q = M q) : dfR M2 li lo := by
  obtain ⟨h1, h2, h3, ⟨f1, f2, f3, a1, a2, a3, a4⟩, f4, f5, b1, b2, b3⟩ := h
  exact ⟨(e 39 (by decide) (by decide)).trans h1, h2, h3, ⟨f1, f2, f3, (e 40 (by decide) (by decide)).trans a1, (e 41 (by decide) (by decide)).trans a2, (e 42 (by decide) (by decide)).trans a3, a4⟩, f4, f5, (e 43 (by decide) (by decide)).trans b1, (e 44 (by decide) (by decide)).trans b2, b3⟩
theorem hcR.put {M M2 : hz_M} {z : Nat} {H : ho_H} {ll ll2 : Nat} {fr kn fr2 kn2 : Int32} (h : hcR M z H ll fr kn) {v : Nat} (hv : v < (hoN H).length) (f : frS [(9, 39), (45, 54), (57, 62), (63 + 34 * v, 63 + 34 * v + 34)] M M2) {N : nd_N} (k : kcR M2 z (63 + 34 * v) (hoN H).length v (hoT H).length (hoE H) (hoW H) fr2 kn2 N.2.2.1 N.2.2.2 (hz_b N.2.1) (hoD H) ll2 N.1) (h57 : ∃ g : Nat → Int32, M2 57 = .inl (1, 1280, .inl g)) : hcR M2 z (hoS H v N (ksQ N.1)) ll2 fr2 kn2 := by
  obtain ⟨h1, h2, h3, h4, h5, h6, h7, h8, h9, ⟨g56, h56, hT56⟩, hdf⟩ := h
  obtain ⟨k1, k2, k3, k4, k5, k6, k7, k8, k9, k10, k11, k12, k13⟩ := k
  have hl : (hoN (hoS H v N (ksQ N.1))).length = (hoN H).length := List.length_set
  refine ⟨k1, by rw [hl]; exact k2, fun w hw => ?_, k9, by rw [hl]; exact k10, k11, k12, k13, h57, ⟨g56, (f.at4 (by omega)).trans h56, hT56⟩, hdf.fr (fun q q1 q2 => f.at4 (by omega))⟩
  rw [hl] at hw
  rw [show ndL (hoN (hoS H v N (ksQ N.1))) w = if w = v then N else ndL (hoN H) w from ndL_set hv w]
  by_cases c : w = v
  · rw [if_pos c, c]
    exact ⟨k3, k4, k5, k6, k7, k8⟩
  · rw [if_neg c]
    exact (h3 w hw).fr (fun q q1 q2 => f.at4 (by omega))
/-- the reference's house -/
def mdN (M : hz_M) (B v : Nat) (N : nd_N) : Prop := mnS M B v (hz_b N.2.1) N.1 (if N.2.1 = true then pvI (ksF N.1) else -1) (if N.2.1 = true then ksP N.1 else []) ∧ orX (fA M B) v (if N.2.1 = true then mkO (ksL N.1) else []) ∧ fA M B 22 v = N.2.2.1 ∧ fA M B 23 v = N.2.2.2
def hmR (M : hz_M) (z B : Nat) (H : ho_H) : Prop := md_k B M z ∧ mdE M B ∧ mgR M B (hoN H).length (hoW H) (hoD H) (hoQ H) ∧ (∀ v, v < (hoN H).length → mdN M B v (ndL (hoN H) v)) ∧ isA (fA M B 80) 0 (hoT H) ∧ fdB M B 95 = some (.int (nI (hoT H).length)) ∧ mdfR M B (hoI H) (hoU H) ∧ fdB M B 103 = some (.int (hoE H))
theorem mnS.ag {M M2 : hz_M} {B w : Nat} {up fz : Int32} {S : ks_S} {po : List po_P} (h : mnS M B w up S fz po) (g : agN M M2 B w) (hI : ksI S) (hpo : poW po) (hcv : cvX M2 B w (ksB S) (enB (ksB S))) (h34 : fA M2 B 34 = fA M B 34) : mnS M2 B w up S fz po := by
  obtain ⟨h1, h2, h3, h4, h5, h6, h7, h9⟩ := h
  have htop := hI.1.top
  exact ⟨(g.s1 16 (by decide)).trans h1, fun j hj => (g.a 17 12288 (by decide) hj).trans (h2 j hj), (g.s1 18 (by decide)).trans h3, (g.s1 19 (by decide)).trans h4, h5.ag g (hI.1.p hI.2.1) h34, h6.ag g hpo, hcv, fun k hk => by rw [g.a 24 128 (by decide) (j := k) (by omega)]; exact h9 k hk⟩
theorem orW_nil : orW [] := ⟨Nat.zero_le _, fun k hk => absurd hk (Nat.not_lt_zero k)⟩
theorem mkO_w {lo : List by_L} (h : loW lo) : orW (mkO lo) := by
  refine ⟨by unfold mkO; rw [List.length_map]; exact h.1, fun k hk => ?_⟩
  have hk2 : k < lo.length := by unfold mkO at hk; rw [List.length_map] at hk; exact hk
  have e : orL (mkO lo) k = (rowL lo k, 1) := by
    unfold orL mkO rowL
    rw [List.getD_eq_getElem?_getD, List.getD_eq_getElem?_getD, List.getElem?_map, List.getElem?_eq_getElem hk2]
    rfl
  rw [e]
  exact ⟨h.2 k hk2, (by decide : (1 : Nat) < 1000)⟩
theorem mdN.ag {M M2 : hz_M} {B w v : Nat} {N : nd_N} (h : mdN M B w N) (hw6 : w < 6) (hwv : w ≠ v) (g : agV M M2 B v) (hI : ksI N.1) (hcw : cvW M M2 B v) (h34 : fA M2 B 34 = fA M B 34) : mdN M2 B w N := by
  obtain ⟨h1, h2, h3, h4⟩ := h
  have gw := g w hwv
  refine ⟨h1.ag gw hI ?_ (hcw w _ _ hw6 hwv h1.2.2.2.2.2.2.1) h34, h2.ag gw ?_, (gw.s1 22 (by decide)).trans h3, (gw.s1 23 (by decide)).trans h4⟩
  · split
    · exact hI.2.2.2.1
    · exact poW_nil
  · split
    · exact mkO_w hI.2.2.2.2
    · exact orW_nil
theorem fL_m {M M2 : hz_M} {B o : Nat} {ks os : List Nat} (f : mfr B ks os M M2) (h0 : ¬ o = 0) (ho : os.elem o = false) : fL M2 B o = fL M B o := fL_c (f.at o h0 ho)
theorem hmR.put {M M2 : hz_M} {z B : Nat} {H : ho_H} (h : hmR M z B H) (h6 : (hoN H).length ≤ 6) {v : Nat} (hv : v < (hoN H).length) (hI : ∀ w, w < (hoN H).length → ksI (ndL (hoN H) w).1) {N : nd_N} {q : mq_S} {ks os : List Nat} (f : mfr B ks os M M2) (hk1 : os.elem 1 = false) (hk2 : os.elem 2 = false) (o34 : os.elem 34 = false) (o80 : os.elem 80 = false) (o81 : os.elem 81 = false) (o82 : os.elem 82 = false) (o83 : os.elem 83 = false) (o84 : os.elem 84 = false) (o85 : os.elem 85 = false) (k95 : ks.elem 95 = false) (k96 : ks.elem 96 = false) (k100 : ks.elem 100 = false) (k103 : ks.elem 103 = false) (hE : mdE M2 B) (g : agV M M2 B v) (hcw : cvW M M2 B v) (hmg : mgR M2 B (hoN H).length (hoW H) (hoD H) q) (hN : mdN M2 B v N) : hmR M2 z B (hoS H v N q) := by
  obtain ⟨a1, a2, a3, a4, a5, a6, a7, a8⟩ := h
  have hl : (hoN (hoS H v N q)).length = (hoN H).length := List.length_set
  refine ⟨a1.mf f hk1 hk2, hE, by rw [hl]; exact hmg, fun w hw => ?_, by rw [fA_m f (by decide) o80]; exact a5, (f.2.2 95 k95).trans a6, ⟨(f.2.2 96 k96).trans a7.1, (f.2.2 100 k100).trans a7.2.1, a7.2.2.1, a7.2.2.2.1, by rw [fL_m f (by decide) o81, fA_m f (by decide) o82, fL_m f (by decide) o83]; exact a7.2.2.2.2.1, by rw [fL_m f (by decide) o84, fL_m f (by decide) o85]; exact a7.2.2.2.2.2⟩, (f.2.2 103 k103).trans a8⟩
  rw [hl] at hw
  rw [show ndL (hoN (hoS H v N q)) w = if w = v then N else ndL (hoN H) w from ndL_set hv w]
  by_cases c : w = v
  · rw [if_pos c, c]; exact hN
  · rw [if_neg c]
    exact (a4 w hw).ag (by omega) c g (hI w hw) hcw (fA_m f (by decide) o34)
