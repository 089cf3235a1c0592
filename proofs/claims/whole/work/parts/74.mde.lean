/-! the reference: all its arrays, as functions of the memory -/
def mdS : List (Nat × Nat × Nat) := [(1, 0, 8), (2, 0, 64), (3, 0, 8), (4, 0, 64), (5, 1, 32), (6, 1, 64), (7, 1, 32), (9, 0, 8), (10, 0, 9), (11, 0, 9), (12, 0, 9), (13, 0, 9), (14, 0, 9), (15, 1, 256), (16, 3, 6), (17, 1, 73728), (18, 0, 6), (19, 0, 6), (20, 0, 6), (21, 0, 6), (22, 0, 6), (23, 0, 6), (24, 0, 768), (25, 0, 768), (26, 0, 768), (27, 0, 768), (28, 0, 768), (29, 0, 768), (30, 1, 24576), (31, 0, 6912), (32, 0, 768), (34, 1, 200), (35, 1, 4000), (36, 0, 9), (37, 1, 512), (38, 0, 16), (39, 0, 16), (40, 0, 16), (41, 0, 16), (42, 0, 11), (44, 0, 5000), (47, 0, 5000), (48, 3, 5000), (49, 0, 128), (50, 1, 4000), (51, 1, 73728), (52, 1, 400), (53, 1, 32), (54, 1, 34560), (55, 0, 96), (58, 0, 6), (59, 1, 5760), (60, 0, 16), (61, 0, 128), (62, 1, 4000), (63, 1, 192000), (64, 0, 48), (65, 0, 48), (66, 1, 1536), (67, 0, 6), (68, 1, 4000), (69, 0, 36), (70, 0, 200), (71, 0, 200), (72, 0, 200), (73, 0, 200), (74, 0, 200), (75, 0, 200), (76, 1, 40000), (77, 1, 512), (78, 1, 4000), (79, 1, 1280), (80, 1, 4000), (82, 0, 4), (86, 3, 16), (87, 0, 7)]
def mdL : List (Nat × Nat) := [(8, 8), (33, 6144), (43, 5000), (45, 5000), (46, 5000), (56, 96), (57, 96), (81, 4), (83, 4), (84, 4), (85, 4)]
def fA (M : hz_M) (B k : Nat) : Nat → Int32 := match M (B + k) with
  | .inl (_, _, .inl f) => f
  | _ => fun _ => 0
def fL (M : hz_M) (B k : Nat) : Nat → Int64 := match M (B + k) with
  | .inl (_, _, .inr (.inl f)) => f
  | _ => fun _ => 0
theorem fA_of {M : hz_M} {B k t n : Nat} {f : Nat → Int32} (h : M (B + k) = .inl (t, n, .inl f)) : fA M B k = f := by unfold fA; rw [h]
theorem fL_of {M : hz_M} {B k t n : Nat} {f : Nat → Int64} (h : M (B + k) = .inl (t, n, .inr (.inl f))) : fL M B k = f := by unfold fL; rw [h]
theorem fA_c {M M2 : hz_M} {B k : Nat} (h : M2 (B + k) = M (B + k)) : fA M2 B k = fA M B k := by unfold fA; rw [h]
theorem fL_c {M M2 : hz_M} {B k : Nat} (h : M2 (B + k) = M (B + k)) : fL M2 B k = fL M B k := by unfold fL; rw [h]
def mdE (M : hz_M) (B : Nat) : Prop := (∀ p ∈ mdS, M (B + p.1) = .inl (p.2.1, p.2.2, .inl (fA M B p.1))) ∧ ∀ p ∈ mdL, M (B + p.1) = .inl (2, p.2, .inr (.inl (fL M B p.1)))
/-- the shapes of the arrays os stand in M2, the others didn't change -/
theorem mdE.fr {M M2 : hz_M} {B : Nat} {ks os : List Nat} (h : mdE M B) (f : mfr B ks os M M2) (hs : ∀ p ∈ mdS, os.elem p.1 = true → ∃ g : Nat → Int32, M2 (B + p.1) = .inl (p.2.1, p.2.2, .inl g)) (hl : ∀ p ∈ mdL, os.elem p.1 = true → ∃ g : Nat → Int64, M2 (B + p.1) = .inl (2, p.2, .inr (.inl g))) : mdE M2 B := by
  refine ⟨fun p hp => ?_, fun p hp => ?_⟩
  · cases e : os.elem p.1 with
    | true => obtain ⟨g, hg⟩ := hs p hp e; rw [fA_of hg, hg]
    | false =>
      have h0 : ¬ p.1 = 0 := fun c => by have q : mdS.all (fun p => decide (¬ p.1 = 0)) = true := by decide
                                         have r := of_decide_eq_true (List.all_eq_true.mp q p hp); exact r c
      have q := f.at p.1 h0 e
      rw [q, h.1 p hp, fA_c q]
  · cases e : os.elem p.1 with
    | true => obtain ⟨g, hg⟩ := hl p hp e; rw [fL_of hg, hg]
    | false =>
      have h0 : ¬ p.1 = 0 := fun c => by have q : mdL.all (fun p => decide (¬ p.1 = 0)) = true := by decide
                                         have r := of_decide_eq_true (List.all_eq_true.mp q p hp); exact r c
      have q := f.at p.1 h0 e
      rw [q, h.2 p hp, fL_c q]
theorem mdE.same {M M2 : hz_M} {B : Nat} {ks : List Nat} (h : mdE M B) (f : mfr B ks [] M M2) : mdE M2 B := h.fr f (fun p _ q => by cases q) (fun p _ q => by cases q)
theorem mdE.upA {M : hz_M} {B k t n : Nat} {g : Nat → Int32} (h : mdE M B) (hk : (k, t, n) ∈ mdS) : mdE (va_up M (B + k) (.inl (t, n, .inl g))) B := by
  refine ⟨fun p hp => ?_, fun p hp => ?_⟩
  · by_cases c : p.1 = k
    · have e : p = (k, t, n) := by
        have q : ∀ p ∈ mdS, ∀ q ∈ mdS, p.1 = q.1 → p = q := by decide +kernel
        exact q p hp _ hk c
      subst e
      rw [fA_of (va_up_self _ _ _), va_up_self]
    · have q : va_up M (B + k) (.inl (t, n, .inl g)) (B + p.1) = M (B + p.1) := va_up_ne _ _ (by omega)
      rw [q, h.1 p hp, fA_c q]
  · have c : ¬ p.1 = k := fun c => by
      have q : ∀ p ∈ mdL, ∀ q ∈ mdS, ¬ p.1 = q.1 := by decide +kernel
      exact q p hp _ hk c
    have q : va_up M (B + k) (.inl (t, n, .inl g)) (B + p.1) = M (B + p.1) := va_up_ne _ _ (by omega)
    rw [q, h.2 p hp, fL_c q]
theorem mdE.upL {M : hz_M} {B k n : Nat} {g : Nat → Int64} (h : mdE M B) (hk : (k, n) ∈ mdL) : mdE (va_up M (B + k) (.inl (2, n, .inr (.inl g)))) B := by
  refine ⟨fun p hp => ?_, fun p hp => ?_⟩
  · have c : ¬ p.1 = k := fun c => by
      have q : ∀ p ∈ mdS, ∀ q ∈ mdL, ¬ p.1 = q.1 := by decide +kernel
      exact q p hp _ hk c
    have q : va_up M (B + k) (.inl (2, n, .inr (.inl g))) (B + p.1) = M (B + p.1) := va_up_ne _ _ (by omega)
    rw [q, h.1 p hp, fA_c q]
  · by_cases c : p.1 = k
    · have e : p = (k, n) := by
        have q : ∀ p ∈ mdL, ∀ q ∈ mdL, p.1 = q.1 → p = q := by decide +kernel
        exact q p hp _ hk c
      subst e
      rw [fL_of (va_up_self _ _ _), va_up_self]
    · have q : va_up M (B + k) (.inl (2, n, .inr (.inl g))) (B + p.1) = M (B + p.1) := va_up_ne _ _ (by omega)
      rw [q, h.2 p hp, fL_c q]
theorem mdE.upO {M : hz_M} {B : Nat} {e : va_E} (h : mdE M B) : mdE (va_up M B e) B := by
  refine ⟨fun p hp => ?_, fun p hp => ?_⟩
  · have h0 : ¬ p.1 = 0 := fun c => by have q : mdS.all (fun p => decide (¬ p.1 = 0)) = true := by decide
                                       have r := of_decide_eq_true (List.all_eq_true.mp q p hp); exact r c
    have q : va_up M B e (B + p.1) = M (B + p.1) := va_up_ne _ _ (by omega)
    rw [q, h.1 p hp, fA_c q]
  · have h0 : ¬ p.1 = 0 := fun c => by have q : mdL.all (fun p => decide (¬ p.1 = 0)) = true := by decide
                                       have r := of_decide_eq_true (List.all_eq_true.mp q p hp); exact r c
    have q : va_up M B e (B + p.1) = M (B + p.1) := va_up_ne _ _ (by omega)
    rw [q, h.2 p hp, fL_c q]
theorem mdE.out {M M2 : hz_M} {B : Nat} (h : mdE M B) (f : ∀ a, B ≤ a → a < B + 88 → M2 a = M a) : mdE M2 B := by
  refine ⟨fun p hp => ?_, fun p hp => ?_⟩
  · have r : mdS.all (fun p => decide (p.1 < 88)) = true := by decide
    have r2 := of_decide_eq_true (List.all_eq_true.mp r p hp)
    have q := f (B + p.1) (by omega) (by omega)
    rw [q, h.1 p hp, fA_c q]
  · have r : mdL.all (fun p => decide (p.1 < 88)) = true := by decide
    have r2 := of_decide_eq_true (List.all_eq_true.mp r p hp)
    have q := f (B + p.1) (by omega) (by omega)
    rw [q, h.2 p hp, fL_c q]
theorem mdE.a1 {M : hz_M} {B : Nat} (h : mdE M B) : M (B + 1) = .inl (0, 8, .inl (fA M B 1)) := h.1 (1, 0, 8) (by decide)
theorem mdE.a2 {M : hz_M} {B : Nat} (h : mdE M B) : M (B + 2) = .inl (0, 64, .inl (fA M B 2)) := h.1 (2, 0, 64) (by decide)
theorem mdE.a3 {M : hz_M} {B : Nat} (h : mdE M B) : M (B + 3) = .inl (0, 8, .inl (fA M B 3)) := h.1 (3, 0, 8) (by decide)
theorem mdE.a4 {M : hz_M} {B : Nat} (h : mdE M B) : M (B + 4) = .inl (0, 64, .inl (fA M B 4)) := h.1 (4, 0, 64) (by decide)
theorem mdE.a5 {M : hz_M} {B : Nat} (h : mdE M B) : M (B + 5) = .inl (1, 32, .inl (fA M B 5)) := h.1 (5, 1, 32) (by decide)
theorem mdE.a6 {M : hz_M} {B : Nat} (h : mdE M B) : M (B + 6) = .inl (1, 64, .inl (fA M B 6)) := h.1 (6, 1, 64) (by decide)
theorem mdE.a7 {M : hz_M} {B : Nat} (h : mdE M B) : M (B + 7) = .inl (1, 32, .inl (fA M B 7)) := h.1 (7, 1, 32) (by decide)
theorem mdE.a8 {M : hz_M} {B : Nat} (h : mdE M B) : M (B + 8) = .inl (2, 8, .inr (.inl (fL M B 8))) := h.2 (8, 8) (by decide)
theorem mdE.a9 {M : hz_M} {B : Nat} (h : mdE M B) : M (B + 9) = .inl (0, 8, .inl (fA M B 9)) := h.1 (9, 0, 8) (by decide)
theorem mdE.a10 {M : hz_M} {B : Nat} (h : mdE M B) : M (B + 10) = .inl (0, 9, .inl (fA M B 10)) := h.1 (10, 0, 9) (by decide)
theorem mdE.a11 {M : hz_M} {B : Nat} (h : mdE M B) : M (B + 11) = .inl (0, 9, .inl (fA M B 11)) := h.1 (11, 0, 9) (by decide)
theorem mdE.a12 {M : hz_M} {B : Nat} (h : mdE M B) : M (B + 12) = .inl (0, 9, .inl (fA M B 12)) := h.1 (12, 0, 9) (by decide)
theorem mdE.a13 {M : hz_M} {B : Nat} (h : mdE M B) : M (B + 13) = .inl (0, 9, .inl (fA M B 13)) := h.1 (13, 0, 9) (by decide)
theorem mdE.a14 {M : hz_M} {B : Nat} (h : mdE M B) : M (B + 14) = .inl (0, 9, .inl (fA M B 14)) := h.1 (14, 0, 9) (by decide)
theorem mdE.a15 {M : hz_M} {B : Nat} (h : mdE M B) : M (B + 15) = .inl (1, 256, .inl (fA M B 15)) := h.1 (15, 1, 256) (by decide)
theorem mdE.a16 {M : hz_M} {B : Nat} (h : mdE M B) : M (B + 16) = .inl (3, 6, .inl (fA M B 16)) := h.1 (16, 3, 6) (by decide)
theorem mdE.a17 {M : hz_M} {B : Nat} (h : mdE M B) : M (B + 17) = .inl (1, 73728, .inl (fA M B 17)) := h.1 (17, 1, 73728) (by decide)
theorem mdE.a18 {M : hz_M} {B : Nat} (h : mdE M B) : M (B + 18) = .inl (0, 6, .inl (fA M B 18)) := h.1 (18, 0, 6) (by decide)
theorem mdE.a19 {M : hz_M} {B : Nat} (h : mdE M B) : M (B + 19) = .inl (0, 6, .inl (fA M B 19)) := h.1 (19, 0, 6) (by decide)
theorem mdE.a20 {M : hz_M} {B : Nat} (h : mdE M B) : M (B + 20) = .inl (0, 6, .inl (fA M B 20)) := h.1 (20, 0, 6) (by decide)
theorem mdE.a21 {M : hz_M} {B : Nat} (h : mdE M B) : M (B + 21) = .inl (0, 6, .inl (fA M B 21)) := h.1 (21, 0, 6) (by decide)
theorem mdE.a22 {M : hz_M} {B : Nat} (h : mdE M B) : M (B + 22) = .inl (0, 6, .inl (fA M B 22)) := h.1 (22, 0, 6) (by decide)
theorem mdE.a23 {M : hz_M} {B : Nat} (h : mdE M B) : M (B + 23) = .inl (0, 6, .inl (fA M B 23)) := h.1 (23, 0, 6) (by decide)
theorem mdE.a24 {M : hz_M} {B : Nat} (h : mdE M B) : M (B + 24) = .inl (0, 768, .inl (fA M B 24)) := h.1 (24, 0, 768) (by decide)
theorem mdE.a25 {M : hz_M} {B : Nat} (h : mdE M B) : M (B + 25) = .inl (0, 768, .inl (fA M B 25)) := h.1 (25, 0, 768) (by decide)
theorem mdE.a26 {M : hz_M} {B : Nat} (h : mdE M B) : M (B + 26) = .inl (0, 768, .inl (fA M B 26)) := h.1 (26, 0, 768) (by decide)
theorem mdE.a27 {M : hz_M} {B : Nat} (h : mdE M B) : M (B + 27) = .inl (0, 768, .inl (fA M B 27)) := h.1 (27, 0, 768) (by decide)
theorem mdE.a28 {M : hz_M} {B : Nat} (h : mdE M B) : M (B + 28) = .inl (0, 768, .inl (fA M B 28)) := h.1 (28, 0, 768) (by decide)
theorem mdE.a29 {M : hz_M} {B : Nat} (h : mdE M B) : M (B + 29) = .inl (0, 768, .inl (fA M B 29)) := h.1 (29, 0, 768) (by decide)
theorem mdE.a30 {M : hz_M} {B : Nat} (h : mdE M B) : M (B + 30) = .inl (1, 24576, .inl (fA M B 30)) := h.1 (30, 1, 24576) (by decide)
theorem mdE.a31 {M : hz_M} {B : Nat} (h : mdE M B) : M (B + 31) = .inl (0, 6912, .inl (fA M B 31)) := h.1 (31, 0, 6912) (by decide)
theorem mdE.a32 {M : hz_M} {B : Nat} (h : mdE M B) : M (B + 32) = .inl (0, 768, .inl (fA M B 32)) := h.1 (32, 0, 768) (by decide)
theorem mdE.a33 {M : hz_M} {B : Nat} (h : mdE M B) : M (B + 33) = .inl (2, 6144, .inr (.inl (fL M B 33))) := h.2 (33, 6144) (by decide)
theorem mdE.a34 {M : hz_M} {B : Nat} (h : mdE M B) : M (B + 34) = .inl (1, 200, .inl (fA M B 34)) := h.1 (34, 1, 200) (by decide)
theorem mdE.a35 {M : hz_M} {B : Nat} (h : mdE M B) : M (B + 35) = .inl (1, 4000, .inl (fA M B 35)) := h.1 (35, 1, 4000) (by decide)
theorem mdE.a36 {M : hz_M} {B : Nat} (h : mdE M B) : M (B + 36) = .inl (0, 9, .inl (fA M B 36)) := h.1 (36, 0, 9) (by decide)
theorem mdE.a37 {M : hz_M} {B : Nat} (h : mdE M B) : M (B + 37) = .inl (1, 512, .inl (fA M B 37)) := h.1 (37, 1, 512) (by decide)
theorem mdE.a38 {M : hz_M} {B : Nat} (h : mdE M B) : M (B + 38) = .inl (0, 16, .inl (fA M B 38)) := h.1 (38, 0, 16) (by decide)
theorem mdE.a39 {M : hz_M} {B : Nat} (h : mdE M B) : M (B + 39) = .inl (0, 16, .inl (fA M B 39)) := h.1 (39, 0, 16) (by decide)
theorem mdE.a40 {M : hz_M} {B : Nat} (h : mdE M B) : M (B + 40) = .inl (0, 16, .inl (fA M B 40)) := h.1 (40, 0, 16) (by decide)
theorem mdE.a41 {M : hz_M} {B : Nat} (h : mdE M B) : M (B + 41) = .inl (0, 16, .inl (fA M B 41)) := h.1 (41, 0, 16) (by decide)
theorem mdE.a42 {M : hz_M} {B : Nat} (h : mdE M B) : M (B + 42) = .inl (0, 11, .inl (fA M B 42)) := h.1 (42, 0, 11) (by decide)
theorem mdE.a43 {M : hz_M} {B : Nat} (h : mdE M B) : M (B + 43) = .inl (2, 5000, .inr (.inl (fL M B 43))) := h.2 (43, 5000) (by decide)
theorem mdE.a44 {M : hz_M} {B : Nat} (h : mdE M B) : M (B + 44) = .inl (0, 5000, .inl (fA M B 44)) := h.1 (44, 0, 5000) (by decide)
theorem mdE.a45 {M : hz_M} {B : Nat} (h : mdE M B) : M (B + 45) = .inl (2, 5000, .inr (.inl (fL M B 45))) := h.2 (45, 5000) (by decide)
theorem mdE.a46 {M : hz_M} {B : Nat} (h : mdE M B) : M (B + 46) = .inl (2, 5000, .inr (.inl (fL M B 46))) := h.2 (46, 5000) (by decide)
theorem mdE.a47 {M : hz_M} {B : Nat} (h : mdE M B) : M (B + 47) = .inl (0, 5000, .inl (fA M B 47)) := h.1 (47, 0, 5000) (by decide)
theorem mdE.a48 {M : hz_M} {B : Nat} (h : mdE M B) : M (B + 48) = .inl (3, 5000, .inl (fA M B 48)) := h.1 (48, 3, 5000) (by decide)
theorem mdE.a49 {M : hz_M} {B : Nat} (h : mdE M B) : M (B + 49) = .inl (0, 128, .inl (fA M B 49)) := h.1 (49, 0, 128) (by decide)
theorem mdE.a50 {M : hz_M} {B : Nat} (h : mdE M B) : M (B + 50) = .inl (1, 4000, .inl (fA M B 50)) := h.1 (50, 1, 4000) (by decide)
theorem mdE.a51 {M : hz_M} {B : Nat} (h : mdE M B) : M (B + 51) = .inl (1, 73728, .inl (fA M B 51)) := h.1 (51, 1, 73728) (by decide)
theorem mdE.a52 {M : hz_M} {B : Nat} (h : mdE M B) : M (B + 52) = .inl (1, 400, .inl (fA M B 52)) := h.1 (52, 1, 400) (by decide)
theorem mdE.a53 {M : hz_M} {B : Nat} (h : mdE M B) : M (B + 53) = .inl (1, 32, .inl (fA M B 53)) := h.1 (53, 1, 32) (by decide)
theorem mdE.a54 {M : hz_M} {B : Nat} (h : mdE M B) : M (B + 54) = .inl (1, 34560, .inl (fA M B 54)) := h.1 (54, 1, 34560) (by decide)
theorem mdE.a55 {M : hz_M} {B : Nat} (h : mdE M B) : M (B + 55) = .inl (0, 96, .inl (fA M B 55)) := h.1 (55, 0, 96) (by decide)
theorem mdE.a56 {M : hz_M} {B : Nat} (h : mdE M B) : M (B + 56) = .inl (2, 96, .inr (.inl (fL M B 56))) := h.2 (56, 96) (by decide)
theorem mdE.a57 {M : hz_M} {B : Nat} (h : mdE M B) : M (B + 57) = .inl (2, 96, .inr (.inl (fL M B 57))) := h.2 (57, 96) (by decide)
theorem mdE.a58 {M : hz_M} {B : Nat} (h : mdE M B) : M (B + 58) = .inl (0, 6, .inl (fA M B 58)) := h.1 (58, 0, 6) (by decide)
theorem mdE.a59 {M : hz_M} {B : Nat} (h : mdE M B) : M (B + 59) = .inl (1, 5760, .inl (fA M B 59)) := h.1 (59, 1, 5760) (by decide)
theorem mdE.a60 {M : hz_M} {B : Nat} (h : mdE M B) : M (B + 60) = .inl (0, 16, .inl (fA M B 60)) := h.1 (60, 0, 16) (by decide)
theorem mdE.a61 {M : hz_M} {B : Nat} (h : mdE M B) : M (B + 61) = .inl (0, 128, .inl (fA M B 61)) := h.1 (61, 0, 128) (by decide)
theorem mdE.a62 {M : hz_M} {B : Nat} (h : mdE M B) : M (B + 62) = .inl (1, 4000, .inl (fA M B 62)) := h.1 (62, 1, 4000) (by decide)
theorem mdE.a63 {M : hz_M} {B : Nat} (h : mdE M B) : M (B + 63) = .inl (1, 192000, .inl (fA M B 63)) := h.1 (63, 1, 192000) (by decide)
theorem mdE.a64 {M : hz_M} {B : Nat} (h : mdE M B) : M (B + 64) = .inl (0, 48, .inl (fA M B 64)) := h.1 (64, 0, 48) (by decide)
theorem mdE.a65 {M : hz_M} {B : Nat} (h : mdE M B) : M (B + 65) = .inl (0, 48, .inl (fA M B 65)) := h.1 (65, 0, 48) (by decide)
theorem mdE.a66 {M : hz_M} {B : Nat} (h : mdE M B) : M (B + 66) = .inl (1, 1536, .inl (fA M B 66)) := h.1 (66, 1, 1536) (by decide)
theorem mdE.a67 {M : hz_M} {B : Nat} (h : mdE M B) : M (B + 67) = .inl (0, 6, .inl (fA M B 67)) := h.1 (67, 0, 6) (by decide)
theorem mdE.a68 {M : hz_M} {B : Nat} (h : mdE M B) : M (B + 68) = .inl (1, 4000, .inl (fA M B 68)) := h.1 (68, 1, 4000) (by decide)
theorem mdE.a69 {M : hz_M} {B : Nat} (h : mdE M B) : M (B + 69) = .inl (0, 36, .inl (fA M B 69)) := h.1 (69, 0, 36) (by decide)
theorem mdE.a70 {M : hz_M} {B : Nat} (h : mdE M B) : M (B + 70) = .inl (0, 200, .inl (fA M B 70)) := h.1 (70, 0, 200) (by decide)
theorem mdE.a71 {M : hz_M} {B : Nat} (h : mdE M B) : M (B + 71) = .inl (0, 200, .inl (fA M B 71)) := h.1 (71, 0, 200) (by decide)
theorem mdE.a72 {M : hz_M} {B : Nat} (h : mdE M B) : M (B + 72) = .inl (0, 200, .inl (fA M B 72)) := h.1 (72, 0, 200) (by decide)
theorem mdE.a73 {M : hz_M} {B : Nat} (h : mdE M B) : M (B + 73) = .inl (0, 200, .inl (fA M B 73)) := h.1 (73, 0, 200) (by decide)
theorem mdE.a74 {M : hz_M} {B : Nat} (h : mdE M B) : M (B + 74) = .inl (0, 200, .inl (fA M B 74)) := h.1 (74, 0, 200) (by decide)
theorem mdE.a75 {M : hz_M} {B : Nat} (h : mdE M B) : M (B + 75) = .inl (0, 200, .inl (fA M B 75)) := h.1 (75, 0, 200) (by decide)
theorem mdE.a76 {M : hz_M} {B : Nat} (h : mdE M B) : M (B + 76) = .inl (1, 40000, .inl (fA M B 76)) := h.1 (76, 1, 40000) (by decide)
theorem mdE.a77 {M : hz_M} {B : Nat} (h : mdE M B) : M (B + 77) = .inl (1, 512, .inl (fA M B 77)) := h.1 (77, 1, 512) (by decide)
theorem mdE.a78 {M : hz_M} {B : Nat} (h : mdE M B) : M (B + 78) = .inl (1, 4000, .inl (fA M B 78)) := h.1 (78, 1, 4000) (by decide)
theorem mdE.a79 {M : hz_M} {B : Nat} (h : mdE M B) : M (B + 79) = .inl (1, 1280, .inl (fA M B 79)) := h.1 (79, 1, 1280) (by decide)
theorem mdE.a80 {M : hz_M} {B : Nat} (h : mdE M B) : M (B + 80) = .inl (1, 4000, .inl (fA M B 80)) := h.1 (80, 1, 4000) (by decide)
theorem mdE.a81 {M : hz_M} {B : Nat} (h : mdE M B) : M (B + 81) = .inl (2, 4, .inr (.inl (fL M B 81))) := h.2 (81, 4) (by decide)
theorem mdE.a82 {M : hz_M} {B : Nat} (h : mdE M B) : M (B + 82) = .inl (0, 4, .inl (fA M B 82)) := h.1 (82, 0, 4) (by decide)
theorem mdE.a83 {M : hz_M} {B : Nat} (h : mdE M B) : M (B + 83) = .inl (2, 4, .inr (.inl (fL M B 83))) := h.2 (83, 4) (by decide)
theorem mdE.a84 {M : hz_M} {B : Nat} (h : mdE M B) : M (B + 84) = .inl (2, 4, .inr (.inl (fL M B 84))) := h.2 (84, 4) (by decide)
theorem mdE.a85 {M : hz_M} {B : Nat} (h : mdE M B) : M (B + 85) = .inl (2, 4, .inr (.inl (fL M B 85))) := h.2 (85, 4) (by decide)
theorem mdE.a86 {M : hz_M} {B : Nat} (h : mdE M B) : M (B + 86) = .inl (3, 16, .inl (fA M B 86)) := h.1 (86, 3, 16) (by decide)
theorem mdE.a87 {M : hz_M} {B : Nat} (h : mdE M B) : M (B + 87) = .inl (0, 7, .inl (fA M B 87)) := h.1 (87, 0, 7) (by decide)
theorem mdE.s {M : hz_M} {B : Nat} (h : mdE M B) : md_s B M := ⟨⟨_, h.a3⟩, ⟨_, h.a4⟩, ⟨_, h.a5⟩, ⟨_, h.a6⟩, ⟨_, h.a7⟩, ⟨_, h.a8⟩, ⟨_, h.a9⟩⟩
theorem mdE.t {M : hz_M} {B : Nat} (h : mdE M B) : md_t B M := ⟨⟨_, h.a10⟩, ⟨_, h.a11⟩, ⟨_, h.a12⟩, ⟨_, h.a13⟩⟩
