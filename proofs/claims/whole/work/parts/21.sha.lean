/-! SHA-256, as both sides do it -/
theorem hz_oa {M : hz_M} {a b : Nat} {x : Nat × List Value} {y : ClassId × vp_A} (h1 : M a = .inr x) (h2 : M b = .inl y) : a ≠ b := fun e => by
  subst e
  rw [h1] at h2
  cases h2
theorem hz_tt {M : hz_M} {a b t1 t2 : Nat} {x y : vp_A} (h1 : M a = .inl (t1, x)) (h2 : M b = .inl (t2, y)) (h : t1 ≠ t2) : a ≠ b := fun e => by
  subst e
  rw [h1] at h2
  injection h2 with q
  injection q with q
  exact h q
theorem hz_upc {M : hz_M} {a b : Nat} {x y w : va_E} (h : a ≠ b) : va_up (va_up (va_up M a x) b y) a w = va_up (va_up M a w) b y := by
  funext q
  by_cases h1 : q = a
  · subst h1
    rw [va_up_self, va_up_ne _ _ h, va_up_self]
  · rw [va_up_ne _ _ h1]
    by_cases h2 : q = b
    · subst h2
      rw [va_up_self, va_up_self]
    · rw [va_up_ne _ _ h2, va_up_ne _ _ h2, va_up_ne _ _ h1, va_up_ne _ _ h1]
theorem hz_upx {M : hz_M} {a b : Nat} {x y : va_E} (h : a ≠ b) : va_up (va_up M a x) b y = va_up (va_up M b y) a x := by
  funext q
  by_cases h1 : q = a
  · subst h1
    rw [va_up_ne _ _ h, va_up_self, va_up_self]
  · rw [va_up_ne _ x h1]
    by_cases h2 : q = b
    · subst h2
      rw [va_up_self, va_up_self]
    · rw [va_up_ne _ _ h2, va_up_ne _ _ h2, va_up_ne _ _ h1]
theorem hz_stat {κ : hz_C} {x : hz_X} {d mc ms : Nat} {P : hz_P} {cn sn pc : Nat} {lo : List (Nat × Value)} {st : List Value} {z : Nat} {M : hz_M} (k : (∀ k, k < 4 → M k = hz_st k) → hz_W κ x d mc ms P cn sn pc lo st z M) : hz_W κ x d mc ms P cn sn pc lo st z M :=
  fun p e s m args below meth c H locs ls F hwd hS hl => k hwd.2.2.1 p e s m args below meth c H locs ls F hwd hS hl
def sh_shr (x : Int32) (n : Nat) : Int32 := (x.toUInt32 >>> ((nI n).toUInt32 &&& Int32.toUInt32 31)).toInt32
def sh_rot (x : Int32) (n : Nat) : Int32 := sh_shr x n ||| (x <<< (nI (32 - n) &&& 31))
def sh_s0 (x : Int32) : Int32 := (sh_rot x 7 ^^^ sh_rot x 18) ^^^ sh_shr x 3
def sh_s1 (x : Int32) : Int32 := (sh_rot x 17 ^^^ sh_rot x 19) ^^^ sh_shr x 10
def sh_e1 (x : Int32) : Int32 := (sh_rot x 6 ^^^ sh_rot x 11) ^^^ sh_rot x 25
def sh_e0 (x : Int32) : Int32 := (sh_rot x 2 ^^^ sh_rot x 13) ^^^ sh_rot x 22
def sh_ch (e f g : Int32) : Int32 := (e &&& f) ^^^ ((e ^^^ (-1)) &&& g)
def sh_mj (a b c : Int32) : Int32 := ((a &&& b) ^^^ (a &&& c)) ^^^ (b &&& c)
abbrev sh_8 : Type := Int32 × Int32 × Int32 × Int32 × Int32 × Int32 × Int32 × Int32
/-- a byte of what is hashed, the padding's among them (but for the length) -/
def sh_by (f : Nat → Int32) (at_ n p : Nat) : Nat := if p < n then bb (f (at_ + p)) else if p = n then 128 else 0
/-- the first k bytes of the word at p -/
def sh_w1 (f : Nat → Int32) (at_ n p : Nat) : Nat → Int32
  | 0 => nI 0
  | k + 1 => (sh_w1 f at_ n p k <<< (nI 8 &&& 31)) ||| nI (sh_by f at_ n (p + k))
/-- the words of a block, the length in the last one -/
def sh_wd (f : Nat → Int32) (at_ n fr i : Nat) : Int32 := if n + 9 ≤ fr + 64 ∧ i = 15 then nI (8 * n) else sh_w1 f at_ n (fr + 4 * i) 4
/-- the words made of the first sixteen -/
def sh_ext (u : Nat → Int32) : Nat → Nat → Int32
  | 0 => u
  | k + 1 => upd (sh_ext u k) (16 + k) (((sh_ext u k k + sh_ext u k (k + 9)) + sh_s0 (sh_ext u k (k + 1))) + sh_s1 (sh_ext u k (k + 14)))
def sh_t (s : sh_8) (kw ww : Int32) : Int32 := (((s.2.2.2.2.2.2.2 + sh_e1 s.2.2.2.2.1) + sh_ch s.2.2.2.2.1 s.2.2.2.2.2.1 s.2.2.2.2.2.2.1) + kw) + ww
def sh_u (s : sh_8) : Int32 := sh_e0 s.1 + sh_mj s.1 s.2.1 s.2.2.1
def sh_rd (w : Nat → Int32) (s : sh_8) : Nat → sh_8
  | 0 => s
  | k + 1 => (sh_t (sh_rd w s k) (hz_sf 1 k) (w k) + sh_u (sh_rd w s k), (sh_rd w s k).1, (sh_rd w s k).2.1, (sh_rd w s k).2.2.1, (sh_rd w s k).2.2.2.1 + sh_t (sh_rd w s k) (hz_sf 1 k) (w k), (sh_rd w s k).2.2.2.2.1, (sh_rd w s k).2.2.2.2.2.1, (sh_rd w s k).2.2.2.2.2.2.1)
def sh_of (v : Nat → Int32) : sh_8 := (v 0, v 1, v 2, v 3, v 4, v 5, v 6, v 7)
def sh_pr (s : sh_8) (j : Nat) : Int32 := match j with
  | 0 => s.1
  | 1 => s.2.1
  | 2 => s.2.2.1
  | 3 => s.2.2.2.1
  | 4 => s.2.2.2.2.1
  | 5 => s.2.2.2.2.2.1
  | 6 => s.2.2.2.2.2.2.1
  | _ => s.2.2.2.2.2.2.2
def sh_blk (v w : Nat → Int32) (j : Nat) : Int32 := v j + sh_pr (sh_rd (sh_ext w 48) (sh_of v) 64) j
/-- the eight words behind b blocks -/
def sh_all (f : Nat → Int32) (at_ n : Nat) : Nat → Nat → Int32
  | 0 => hz_sf 0
  | b + 1 => sh_blk (sh_all f at_ n b) (sh_wd f at_ n (64 * b))
/-- the hash of n bytes, its eight words -/
def sh_h (f : Nat → Int32) (at_ n : Nat) : Nat → Int32 := sh_all f at_ n ((n + 8) / 64 + 1)
theorem sh_ext_c {u w : Nat → Int32} (h : ∀ i, i < 16 → u i = w i) : ∀ k, k ≤ 48 → ∀ i, i < 16 + k → sh_ext u k i = sh_ext w k i := by
  intro k
  induction k with
  | zero => intro _ i hi; exact h i hi
  | succ k ih =>
    intro hk i hi
    have q := ih (by omega)
    simp only [sh_ext, upd]
    split
    · rw [q k (by omega), q (k + 9) (by omega), q (k + 1) (by omega), q (k + 14) (by omega)]
    · exact q i (by omega)
theorem sh_rd_c {u w : Nat → Int32} (s : sh_8) (h : ∀ i, i < 64 → u i = w i) : ∀ k, k ≤ 64 → sh_rd u s k = sh_rd w s k := by
  intro k
  induction k with
  | zero => intro _; rfl
  | succ k ih =>
    intro hk
    simp only [sh_rd, ih (by omega), h k (by omega)]
theorem sh_of_c {u w : Nat → Int32} (h : ∀ i, i < 8 → u i = w i) : sh_of u = sh_of w := by
  simp only [sh_of, h 0 (by decide), h 1 (by decide), h 2 (by decide), h 3 (by decide), h 4 (by decide), h 5 (by decide), h 6 (by decide), h 7 (by decide)]
theorem sh_blk_c {v v2 w w2 : Nat → Int32} (hv : ∀ i, i < 8 → v i = v2 i) (hw : ∀ i, i < 16 → w i = w2 i) : ∀ j, j < 8 → sh_blk v w j = sh_blk v2 w2 j := by
  intro j hj
  unfold sh_blk
  rw [hv j hj, sh_of_c hv, sh_rd_c _ (fun i hi => sh_ext_c hw 48 (by omega) i (by omega)) 64 (by omega)]

