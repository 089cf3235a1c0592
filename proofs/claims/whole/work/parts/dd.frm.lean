/-! what the one does doesn't touch the other -/
theorem fA_e {M M2 : hz_M} {B : Nat} (e : ∀ q, B ≤ q → q < B + 88 → M2 q = M q) {o : Nat} (ho : o < 88) : fA M2 B o = fA M B o := fA_c (e _ (by omega) (by omega))
theorem fL_e {M M2 : hz_M} {B : Nat} (e : ∀ q, B ≤ q → q < B + 88 → M2 q = M q) {o : Nat} (ho : o < 88) : fL M2 B o = fL M B o := fL_c (e _ (by omega) (by omega))
theorem fdB_e {M M2 : hz_M} {B : Nat} (e : ∀ q, B ≤ q → q < B + 88 → M2 q = M q) (k : Nat) : fdB M2 B k = fdB M B k := by unfold fdB; rw [e B (by omega) (by omega)]
theorem md_O.e {M M2 : hz_M} {B : Nat} (e : ∀ q, B ≤ q → q < B + 88 → M2 q = M q) (h : md_O M B) : md_O M2 B := by obtain ⟨fs, q1, q2⟩ := h; exact ⟨fs, (e B (by omega) (by omega)).trans q1, q2⟩
theorem mdE.e {M M2 : hz_M} {B : Nat} (e : ∀ q, B ≤ q → q < B + 88 → M2 q = M q) (h : mdE M B) : mdE M2 B := by
  have q : ∀ p ∈ mdS, p.1 < 88 := by decide
  have q2 : ∀ p ∈ mdL, p.1 < 88 := by decide
  exact ⟨fun p hp => by have r := q p hp; have c := e (B + p.1) (by omega) (by omega); rw [c, fA_c c]; exact h.1 p hp, fun p hp => by have r := q2 p hp; have c := e (B + p.1) (by omega) (by omega); rw [c, fL_c c]; exact h.2 p hp⟩
theorem mcR.e {M M2 : hz_M} {B : Nat} (e : ∀ q, B ≤ q → q < B + 88 → M2 q = M q) {cs : List co_C} (h : mcR M B cs) : mcR M2 B cs := by
  obtain ⟨h1, h2, h3, f1, f2, f3, f4, f5, f6, k1, k2, k3, k4, k5, k6, hx⟩ := h
  exact ⟨h1.e e, (fdB_e e 53).trans h2, h3, f1, f2, f3, f4, f5, f6, (e _ (by omega) (by omega)).trans k1, (e _ (by omega) (by omega)).trans k2, (e _ (by omega) (by omega)).trans k3, (e _ (by omega) (by omega)).trans k4, (e _ (by omega) (by omega)).trans k5, (e _ (by omega) (by omega)).trans k6, hx⟩
theorem cvX.e {M M2 : hz_M} {B v : Nat} (e : ∀ q, B ≤ q → q < B + 88 → M2 q = M q) {bl : List bk_B} {en : List en_E} (h : cvX M B v bl en) : cvX M2 B v bl en := by
  obtain ⟨cn, cb, h1, h2, h3⟩ := h
  exact ⟨cn, cb, (fdB_e e 54).trans h1, (fdB_e e 55).trans h2, fun c => by obtain ⟨x, q1, q2, q3⟩ := h3 c; exact ⟨x, q1, q2, q3.e e⟩⟩
theorem mnB.e {M M2 : hz_M} {B v tip : Nat} (e : ∀ q, B ≤ q → q < B + 88 → M2 q = M q) {bl : List bk_B} {en : List en_E} (h : mnB M B v bl en tip) : mnB M2 B v bl en tip := by
  unfold mnB rvX nbX at h ⊢
  rw [fA_e e (o := 20) (by decide), fA_e e (o := 21) (by decide), fA_e e (o := 24) (by decide), fA_e e (o := 25) (by decide), fA_e e (o := 26) (by decide), fA_e e (o := 27) (by decide), fA_e e (o := 28) (by decide), fA_e e (o := 29) (by decide), fA_e e (o := 30) (by decide), fA_e e (o := 31) (by decide), fA_e e (o := 32) (by decide), fA_e e (o := 34) (by decide), fA_e e (o := 38) (by decide), fA_e e (o := 39) (by decide), fA_e e (o := 40) (by decide), fA_e e (o := 41) (by decide), fA_e e (o := 51) (by decide), fL_e e (o := 33) (by decide)]
  exact h
theorem mnS.e {M M2 : hz_M} {B v : Nat} (e : ∀ q, B ≤ q → q < B + 88 → M2 q = M q) {up fz : Int32} {S : ks_S} {po : List po_P} (h : mnS M B v up S fz po) : mnS M2 B v up S fz po := by
  obtain ⟨h1, h2, h3, h4, h5, h6, h7, h8⟩ := h
  refine ⟨by rw [fA_e e (o := 16) (by decide)]; exact h1, by rw [fA_e e (o := 17) (by decide)]; exact h2, by rw [fA_e e (o := 18) (by decide)]; exact h3, by rw [fA_e e (o := 19) (by decide)]; exact h4, h5.e e, ?_, h7.e e, by unfold mnP; rw [fA_e e (o := 24) (by decide)]; exact h8⟩
  unfold poX at h6 ⊢
  rw [fA_e e (o := 54) (by decide), fA_e e (o := 55) (by decide), fA_e e (o := 58) (by decide), fL_e e (o := 56) (by decide), fL_e e (o := 57) (by decide)]
  exact h6
theorem mdN.e {M M2 : hz_M} {B v : Nat} (e : ∀ q, B ≤ q → q < B + 88 → M2 q = M q) {N : nd_N} (h : mdN M B v N) : mdN M2 B v N := by
  obtain ⟨h1, h2, h3, h4⟩ := h
  refine ⟨h1.e e, ?_, by rw [fA_e e (o := 22) (by decide)]; exact h3, by rw [fA_e e (o := 23) (by decide)]; exact h4⟩
  unfold orX oeX at h2 ⊢
  rw [fA_e e (o := 63) (by decide), fA_e e (o := 64) (by decide), fA_e e (o := 65) (by decide), fA_e e (o := 66) (by decide), fA_e e (o := 67) (by decide)]
  exact h2
theorem mgR.e {M M2 : hz_M} {B nn : Nat} (e : ∀ q, B ≤ q → q < B + 88 → M2 q = M q) {now : Int32} {dl : Nat → Nat} {s : mq_S} (h : mgR M B nn now dl s) : mgR M2 B nn now dl s := by
  obtain ⟨h1, h2, h3, h4, h5, h6, h7, h8, h9⟩ := h
  refine ⟨(fdB_e e 1).trans h1, by unfold mdD; rw [fA_e e (o := 69) (by decide)]; exact h2, ?_, h4, h5, (fdB_e e 86).trans h6, (fdB_e e 87).trans h7, (fdB_e e 88).trans h8, (fdB_e e 89).trans h9⟩
  unfold mqX at h3 ⊢
  rw [fA_e e (o := 70) (by decide), fA_e e (o := 71) (by decide), fA_e e (o := 72) (by decide), fA_e e (o := 73) (by decide), fA_e e (o := 74) (by decide), fA_e e (o := 75) (by decide), fA_e e (o := 76) (by decide)]
  exact h3
theorem hmR.e {M M2 : hz_M} {z B : Nat} (e : ∀ q, B ≤ q → q < B + 88 → M2 q = M q) {H : ho_H} (h : hmR M z B H) : hmR M2 z B H := by
  obtain ⟨⟨k1, ⟨f1, k2, k3⟩, ⟨f2, k4, k5⟩, k6, k7⟩, a2, a3, a4, a5, a6, a7, a8⟩ := h
  refine ⟨⟨md_O.e e k1, ⟨f1, (e _ (by omega) (by omega)).trans k2, k3⟩, ⟨f2, (e _ (by omega) (by omega)).trans k4, k5⟩, k6, k7⟩, a2.e e, a3.e e, fun v hv => (a4 v hv).e e, by rw [fA_e e (o := 80) (by decide)]; exact a5, (fdB_e e 95).trans a6, ⟨(fdB_e e 96).trans a7.1, (fdB_e e 100).trans a7.2.1, a7.2.2.1, a7.2.2.2.1, ?_, ?_⟩, (fdB_e e 103).trans a8⟩
  · rw [fL_e e (o := 81) (by decide), fA_e e (o := 82) (by decide), fL_e e (o := 83) (by decide)]; exact a7.2.2.2.2.1
  · rw [fL_e e (o := 84) (by decide), fL_e e (o := 85) (by decide)]; exact a7.2.2.2.2.2
theorem fiM.e {M M2 : hz_M} {B : Nat} (e : ∀ q, B ≤ q → q < B + 88 → M2 q = M q) {F : by_L} (h : fiM M B F) : fiM M2 B F := ⟨(fdB_e e 37).trans h.1, by rw [fA_e e (o := 34) (by decide)]; exact h.2⟩
theorem hcR.e {M M2 : hz_M} {z : Nat} {H : ho_H} {ll : Nat} {fr kn : Int32} (h : hcR M z H ll fr kn) (e : ∀ q, 8 ≤ q → q < 63 + 34 * (hoN H).length → M2 q = M q) : hcR M2 z H ll fr kn := by
  obtain ⟨h1, ⟨fN, n1, n2⟩, h3, h4, ⟨h45, hQ, fd, d1, d2⟩, ⟨g6, h6⟩, ⟨L, h7⟩, ⟨g8, h8⟩, ⟨g9, h9⟩, ⟨g56, h56, hT56⟩, hdf⟩ := h
  exact ⟨(e _ (by omega) (by omega)).trans h1, ⟨fN, (e _ (by omega) (by omega)).trans n1, n2⟩, fun v hv => (h3 v hv).fr (fun q q1 q2 => e _ (by omega) (by omega)), h4.al (fun q q1 q2 => e _ (by omega) (by omega)), ⟨(e _ (by omega) (by omega)).trans h45, hQ.fr (fun q q1 q2 => e _ (by omega) (by omega)), fd, (e _ (by omega) (by omega)).trans d1, d2⟩, ⟨g6, (e _ (by omega) (by omega)).trans h6⟩, ⟨L, h7.fr (fun q q1 q2 => e _ (by omega) (by omega))⟩, ⟨g8, (e _ (by omega) (by omega)).trans h8⟩, ⟨g9, (e _ (by omega) (by omega)).trans h9⟩, ⟨g56, (e _ (by omega) (by omega)).trans h56, hT56⟩, hdf.fr (fun q q1 q2 => e _ (by omega) (by omega))⟩
