/-! SHA-256 over numbers -/
theorem ni_and (a b : Nat) : nI a &&& nI b = nI (Nat.land a b) := by
  apply Int32.toBitVec_inj.1
  show BitVec.ofNat 32 a &&& BitVec.ofNat 32 b = BitVec.ofNat 32 (a &&& b)
  apply BitVec.eq_of_getLsbD_eq
  intro i hi
  simp [hi]
theorem ni_xor (a b : Nat) : nI a ^^^ nI b = nI (Nat.xor a b) := by
  apply Int32.toBitVec_inj.1
  show BitVec.ofNat 32 a ^^^ BitVec.ofNat 32 b = BitVec.ofNat 32 (a ^^^ b)
  apply BitVec.eq_of_getLsbD_eq
  intro i hi
  simp [hi]
theorem ni_or (a b : Nat) : nI a ||| nI b = nI (Nat.lor a b) := by
  apply Int32.toBitVec_inj.1
  show BitVec.ofNat 32 a ||| BitVec.ofNat 32 b = BitVec.ofNat 32 (a ||| b)
  rw [← BitVec.ofNat_or]
theorem ni_shr {a n : Nat} (ha : a < 4294967296) (hn : n < 32) : sh_shr (nI a) n = nI (Nat.shiftRight a n) := by
  have h2 : a >>> n < 2 ^ 32 := by rw [Nat.shiftRight_eq_div_pow]; exact Nat.lt_of_le_of_lt (Nat.div_le_self _ _) ha
  apply un_inj
  show ((nI a).toUInt32 >>> ((nI n).toUInt32 &&& Int32.toUInt32 31)).toBitVec.toNat = (BitVec.ofNat 32 (a >>> n)).toNat
  rw [UInt32.toBitVec_shiftRight]
  show ((nI a).toUInt32.toBitVec >>> (((nI n).toUInt32 &&& Int32.toUInt32 31).toBitVec % 32).toNat).toNat = _
  rw [s_u n hn, BitVec.toNat_ushiftRight, BitVec.toNat_ofNat]
  show (BitVec.ofNat 32 a).toNat >>> n = (a >>> n) % 2 ^ 32
  rw [BitVec.toNat_ofNat, Nat.mod_eq_of_lt (show a < 2 ^ 32 from ha), Nat.mod_eq_of_lt h2]
theorem ni_shl (a : Nat) {k : Nat} (hk : k < 32) : nI a <<< (nI k &&& 31) = nI (Nat.shiftLeft a k) := (shl_nI a hk).trans (congrArg nI (Nat.shiftLeft_eq a k).symm)
theorem ni_mod (x : Nat) : nI (Nat.mod x 4294967296) = nI x := by
  apply un_inj
  show (BitVec.ofNat 32 (x % 4294967296)).toNat = (BitVec.ofNat 32 x).toNat
  rw [BitVec.toNat_ofNat, BitVec.toNat_ofNat]
  omega
theorem ni_ml (x : Nat) : Nat.mod x 4294967296 < 4294967296 := Nat.mod_lt x (by decide)
theorem ni_add (a b : Nat) : nI a + nI b = nI (Nat.add a b) := nI_add a b
theorem ni_m1 : (-1 : Int32) = nI 4294967295 := by decide
def n_r (n a : Nat) : Nat := Nat.lor (Nat.shiftRight a n) (Nat.shiftLeft a (Nat.sub 32 n))
theorem ni_rot {a n : Nat} (ha : a < 4294967296) (h0 : 0 < n) (hn : n < 32) : sh_rot (nI a) n = nI (n_r n a) := by
  unfold sh_rot
  rw [ni_shr ha hn, ni_shl a (show 32 - n < 32 by omega), ni_or]
  rfl
def n_s0 (x : Nat) : Nat := Nat.xor (Nat.xor (n_r 7 x) (n_r 18 x)) (Nat.shiftRight x 3)
theorem ni_s0 {x : Nat} (hx : x < 4294967296) : sh_s0 (nI x) = nI (n_s0 x) := by
  unfold sh_s0 n_s0
  rw [ni_rot (n := 7) hx (by decide) (by decide), ni_rot (n := 18) hx (by decide) (by decide), ni_shr (n := 3) hx (by decide), ni_xor, ni_xor]
def n_s1 (x : Nat) : Nat := Nat.xor (Nat.xor (n_r 17 x) (n_r 19 x)) (Nat.shiftRight x 10)
theorem ni_s1 {x : Nat} (hx : x < 4294967296) : sh_s1 (nI x) = nI (n_s1 x) := by
  unfold sh_s1 n_s1
  rw [ni_rot (n := 17) hx (by decide) (by decide), ni_rot (n := 19) hx (by decide) (by decide), ni_shr (n := 10) hx (by decide), ni_xor, ni_xor]
def n_e1 (x : Nat) : Nat := Nat.xor (Nat.xor (n_r 6 x) (n_r 11 x)) (n_r 25 x)
theorem ni_e1 {x : Nat} (hx : x < 4294967296) : sh_e1 (nI x) = nI (n_e1 x) := by
  unfold sh_e1 n_e1
  rw [ni_rot (n := 6) hx (by decide) (by decide), ni_rot (n := 11) hx (by decide) (by decide), ni_rot (n := 25) hx (by decide) (by decide), ni_xor, ni_xor]
def n_e0 (x : Nat) : Nat := Nat.xor (Nat.xor (n_r 2 x) (n_r 13 x)) (n_r 22 x)
theorem ni_e0 {x : Nat} (hx : x < 4294967296) : sh_e0 (nI x) = nI (n_e0 x) := by
  unfold sh_e0 n_e0
  rw [ni_rot (n := 2) hx (by decide) (by decide), ni_rot (n := 13) hx (by decide) (by decide), ni_rot (n := 22) hx (by decide) (by decide), ni_xor, ni_xor]
def n_ch (e f g : Nat) : Nat := Nat.xor (Nat.land e f) (Nat.land (Nat.xor e 4294967295) g)
theorem ni_ch (e f g : Nat) : sh_ch (nI e) (nI f) (nI g) = nI (n_ch e f g) := by
  unfold sh_ch n_ch
  rw [ni_m1, ni_xor, ni_and, ni_and, ni_xor]
def n_mj (a b c : Nat) : Nat := Nat.xor (Nat.xor (Nat.land a b) (Nat.land a c)) (Nat.land b c)
theorem ni_mj (a b c : Nat) : sh_mj (nI a) (nI b) (nI c) = nI (n_mj a b c) := by
  unfold sh_mj n_mj
  rw [ni_and, ni_and, ni_and, ni_xor, ni_xor]
def n_t (e f g h k w : Nat) : Nat := Nat.add (Nat.add (Nat.add (Nat.add h (n_e1 e)) (n_ch e f g)) k) w
def n_u (a b c : Nat) : Nat := Nat.add (n_e0 a) (n_mj a b c)
def n_a (a b c e f g h k w : Nat) : Nat := Nat.mod (Nat.add (n_t e f g h k w) (n_u a b c)) 4294967296
def n_e (d e f g h k w : Nat) : Nat := Nat.mod (Nat.add d (n_t e f g h k w)) 4294967296
def n_w (w0 w1 w9 w14 : Nat) : Nat := Nat.mod (Nat.add (Nat.add (Nat.add w0 w9) (n_s0 w1)) (n_s1 w14)) 4294967296
def n_go : List Nat → Nat → Nat → Nat → Nat → Nat → Nat → Nat → Nat → Nat → Nat → Nat → Nat → Nat → Nat → Nat → Nat → Nat → Nat → Nat → Nat → Nat → Nat → Nat → Nat → List Nat
  | [], w0, w1, w2, w3, w4, w5, w6, w7, w8, w9, w10, w11, w12, w13, w14, w15, a, b, c, d, e, f, g, h => [a, b, c, d, e, f, g, h]
  | k :: ks, w0, w1, w2, w3, w4, w5, w6, w7, w8, w9, w10, w11, w12, w13, w14, w15, a, b, c, d, e, f, g, h => n_go ks w1 w2 w3 w4 w5 w6 w7 w8 w9 w10 w11 w12 w13 w14 w15 (n_w w0 w1 w9 w14) (n_a a b c e f g h k w0) a b c (n_e d e f g h k w0) e f g
theorem ni_t {a b c d e f g h k w : Nat} (he : e < 4294967296) : sh_t (nI a, nI b, nI c, nI d, nI e, nI f, nI g, nI h) (nI k) (nI w) = nI (n_t e f g h k w) := by
  show ((((nI h + sh_e1 (nI e)) + sh_ch (nI e) (nI f) (nI g)) + nI k) + nI w) = _
  rw [ni_e1 he, ni_ch, ni_add, ni_add, ni_add, ni_add]
  rfl
theorem ni_u {a b c d e f g h : Nat} (ha : a < 4294967296) : sh_u (nI a, nI b, nI c, nI d, nI e, nI f, nI g, nI h) = nI (n_u a b c) := by
  show sh_e0 (nI a) + sh_mj (nI a) (nI b) (nI c) = _
  rw [ni_e0 ha, ni_mj, ni_add]
  rfl
set_option maxHeartbeats 2000000 in
set_option maxRecDepth 100000 in
theorem n_go_ok {E : Nat → Int32} {S : sh_8} (hE : ∀ k, k < 48 → E (16 + k) = ((E k + E (k + 9)) + sh_s0 (E (k + 1))) + sh_s1 (E (k + 14))) : ∀ (ks : List Nat) (k w0 w1 w2 w3 w4 w5 w6 w7 w8 w9 w10 w11 w12 w13 w14 w15 a b c d e f g h : Nat), k + ks.length = 64 → (∀ i, i < ks.length → hz_sf 1 (k + i) = nI (ks.getD i 0)) → ((k + 0 < 64 → E (k + 0) = nI w0) ∧ (k + 1 < 64 → E (k + 1) = nI w1) ∧ (k + 2 < 64 → E (k + 2) = nI w2) ∧ (k + 3 < 64 → E (k + 3) = nI w3) ∧ (k + 4 < 64 → E (k + 4) = nI w4) ∧ (k + 5 < 64 → E (k + 5) = nI w5) ∧ (k + 6 < 64 → E (k + 6) = nI w6) ∧ (k + 7 < 64 → E (k + 7) = nI w7) ∧ (k + 8 < 64 → E (k + 8) = nI w8) ∧ (k + 9 < 64 → E (k + 9) = nI w9) ∧ (k + 10 < 64 → E (k + 10) = nI w10) ∧ (k + 11 < 64 → E (k + 11) = nI w11) ∧ (k + 12 < 64 → E (k + 12) = nI w12) ∧ (k + 13 < 64 → E (k + 13) = nI w13) ∧ (k + 14 < 64 → E (k + 14) = nI w14) ∧ (k + 15 < 64 → E (k + 15) = nI w15)) → (w0 < 4294967296 ∧ w1 < 4294967296 ∧ w2 < 4294967296 ∧ w3 < 4294967296 ∧ w4 < 4294967296 ∧ w5 < 4294967296 ∧ w6 < 4294967296 ∧ w7 < 4294967296 ∧ w8 < 4294967296 ∧ w9 < 4294967296 ∧ w10 < 4294967296 ∧ w11 < 4294967296 ∧ w12 < 4294967296 ∧ w13 < 4294967296 ∧ w14 < 4294967296 ∧ w15 < 4294967296) → (a < 4294967296 ∧ b < 4294967296 ∧ c < 4294967296 ∧ d < 4294967296 ∧ e < 4294967296 ∧ f < 4294967296 ∧ g < 4294967296 ∧ h < 4294967296) → sh_rd E S k = (nI a, nI b, nI c, nI d, nI e, nI f, nI g, nI h) → ∃ a' b' c' d' e' f' g' h' : Nat, n_go ks w0 w1 w2 w3 w4 w5 w6 w7 w8 w9 w10 w11 w12 w13 w14 w15 a b c d e f g h = [a', b', c', d', e', f', g', h'] ∧ (a' < 4294967296 ∧ b' < 4294967296 ∧ c' < 4294967296 ∧ d' < 4294967296 ∧ e' < 4294967296 ∧ f' < 4294967296 ∧ g' < 4294967296 ∧ h' < 4294967296) ∧ sh_rd E S 64 = (nI a', nI b', nI c', nI d', nI e', nI f', nI g', nI h') := by
  intro ks
  induction ks with
  | nil =>
    intro k w0 w1 w2 w3 w4 w5 w6 w7 w8 w9 w10 w11 w12 w13 w14 w15 a b c d e f g h hk _ _ _ hs hr
    have ek : k = 64 := hk
    rw [ek] at hr
    exact ⟨a, b, c, d, e, f, g, h, rfl, hs, hr⟩
  | cons c0 ks ih =>
    intro k w0 w1 w2 w3 w4 w5 w6 w7 w8 w9 w10 w11 w12 w13 w14 w15 a b c d e f g h hk hK hW hw hs hr
    have hl : (c0 :: ks).length = ks.length + 1 := rfl
    rw [hl] at hk
    have k0 : hz_sf 1 k = nI c0 := hK 0 (by rw [hl]; omega)
    have E0 : E k = nI w0 := hW.1 (by omega)
    have ha := hs.1
    have he := hs.2.2.2.2.1
    show ∃ a' b' c' d' e' f' g' h' : Nat, n_go ks w1 w2 w3 w4 w5 w6 w7 w8 w9 w10 w11 w12 w13 w14 w15 (n_w w0 w1 w9 w14) (n_a a b c e f g h c0 w0) a b c (n_e d e f g h c0 w0) e f g = [a', b', c', d', e', f', g', h'] ∧ _
    refine ih (k + 1) w1 w2 w3 w4 w5 w6 w7 w8 w9 w10 w11 w12 w13 w14 w15 (n_w w0 w1 w9 w14) (n_a a b c e f g h c0 w0) a b c (n_e d e f g h c0 w0) e f g (by omega) (fun i hi => ?_) ⟨hW.2.1, hW.2.2.1, hW.2.2.2.1, hW.2.2.2.2.1, hW.2.2.2.2.2.1, hW.2.2.2.2.2.2.1, hW.2.2.2.2.2.2.2.1, hW.2.2.2.2.2.2.2.2.1, hW.2.2.2.2.2.2.2.2.2.1, hW.2.2.2.2.2.2.2.2.2.2.1, hW.2.2.2.2.2.2.2.2.2.2.2.1, hW.2.2.2.2.2.2.2.2.2.2.2.2.1, hW.2.2.2.2.2.2.2.2.2.2.2.2.2.1, hW.2.2.2.2.2.2.2.2.2.2.2.2.2.2.1, hW.2.2.2.2.2.2.2.2.2.2.2.2.2.2.2, fun q => ?_⟩ ⟨hw.2.1, hw.2.2.1, hw.2.2.2.1, hw.2.2.2.2.1, hw.2.2.2.2.2.1, hw.2.2.2.2.2.2.1, hw.2.2.2.2.2.2.2.1, hw.2.2.2.2.2.2.2.2.1, hw.2.2.2.2.2.2.2.2.2.1, hw.2.2.2.2.2.2.2.2.2.2.1, hw.2.2.2.2.2.2.2.2.2.2.2.1, hw.2.2.2.2.2.2.2.2.2.2.2.2.1, hw.2.2.2.2.2.2.2.2.2.2.2.2.2.1, hw.2.2.2.2.2.2.2.2.2.2.2.2.2.2.1, hw.2.2.2.2.2.2.2.2.2.2.2.2.2.2.2, ni_ml _⟩ ⟨ni_ml _, hs.1, hs.2.1, hs.2.2.1, ni_ml _, hs.2.2.2.2.1, hs.2.2.2.2.2.1, hs.2.2.2.2.2.2.1⟩ ?_
    · have q := hK (i + 1) (by rw [hl]; omega)
      rw [show k + 1 + i = k + (i + 1) by omega]
      exact q
    · have q1 := hE k (by omega)
      rw [show k + 1 + 15 = 16 + k by omega, q1, E0, hW.2.2.2.2.2.2.2.2.2.1 (by omega), hW.2.1 (by omega), hW.2.2.2.2.2.2.2.2.2.2.2.2.2.2.1 (by omega), ni_s0 hw.2.1, ni_s1 hw.2.2.2.2.2.2.2.2.2.2.2.2.2.2.1, ni_add, ni_add, ni_add]
      exact (ni_mod _).symm
    · have e1 : sh_rd E S (k + 1) = (sh_t (sh_rd E S k) (hz_sf 1 k) (E k) + sh_u (sh_rd E S k), (sh_rd E S k).1, (sh_rd E S k).2.1, (sh_rd E S k).2.2.1, (sh_rd E S k).2.2.2.1 + sh_t (sh_rd E S k) (hz_sf 1 k) (E k), (sh_rd E S k).2.2.2.2.1, (sh_rd E S k).2.2.2.2.2.1, (sh_rd E S k).2.2.2.2.2.2.1) := rfl
      rw [e1, hr, k0, E0, ni_t he, ni_u ha]
      show (nI (n_t e f g h c0 w0) + nI (n_u a b c), nI a, nI b, nI c, nI d + nI (n_t e f g h c0 w0), nI e, nI f, nI g) = _
      rw [ni_add, ni_add, ← ni_mod (Nat.add (n_t e f g h c0 w0) (n_u a b c)), ← ni_mod (Nat.add d (n_t e f g h c0 w0))]
      rfl
theorem sh_ext_st (u : Nat → Int32) (m : Nat) : ∀ x i, i < 16 + m → sh_ext u (m + x) i = sh_ext u m i := by
  intro x
  induction x with
  | zero => intro i _; rfl
  | succ x ih =>
    intro i hi
    show upd (sh_ext u (m + x)) (16 + (m + x)) _ i = _
    unfold upd
    rw [if_neg (by omega)]
    exact ih i hi
theorem sh_ext_r (u : Nat → Int32) : ∀ k, k < 48 → sh_ext u 48 (16 + k) = ((sh_ext u 48 k + sh_ext u 48 (k + 9)) + sh_s0 (sh_ext u 48 (k + 1))) + sh_s1 (sh_ext u 48 (k + 14)) := by
  intro k hk
  have st : ∀ i, i < 16 + k → sh_ext u 48 i = sh_ext u k i := fun i hi => by
    have q := sh_ext_st u k (48 - k) i hi
    rw [show k + (48 - k) = 48 by omega] at q
    exact q
  have q := sh_ext_st u (k + 1) (48 - (k + 1)) (16 + k) (by omega)
  rw [show k + 1 + (48 - (k + 1)) = 48 by omega] at q
  rw [q, st k (by omega), st (k + 9) (by omega), st (k + 1) (by omega), st (k + 14) (by omega)]
  show upd (sh_ext u k) (16 + k) _ (16 + k) = _
  unfold upd
  rw [if_pos rfl]
def n_K : List Nat := [1116352408, 1899447441, 3049323471, 3921009573, 961987163, 1508970993, 2453635748, 2870763221, 3624381080, 310598401, 607225278, 1426881987, 1925078388, 2162078206, 2614888103, 3248222580, 3835390401, 4022224774, 264347078, 604807628, 770255983, 1249150122, 1555081692, 1996064986, 2554220882, 2821834349, 2952996808, 3210313671, 3336571891, 3584528711, 113926993, 338241895, 666307205, 773529912, 1294757372, 1396182291, 1695183700, 1986661051, 2177026350, 2456956037, 2730485921, 2820302411, 3259730800, 3345764771, 3516065817, 3600352804, 4094571909, 275423344, 430227734, 506948616, 659060556, 883997877, 958139571, 1322822218, 1537002063, 1747873779, 1955562222, 2024104815, 2227730452, 2361852424, 2428436474, 2756734187, 3204031479, 3329325298]
theorem n_Kok : ∀ i, i < 64 → hz_sf 1 i = nI (n_K.getD i 0) := by decide +kernel
def n_ad (v0 v1 v2 v3 v4 v5 v6 v7 : Nat) (l : List Nat) : List Nat := match l with
  | [a, b, c, d, e, f, g, h] => [Nat.mod (Nat.add v0 a) 4294967296, Nat.mod (Nat.add v1 b) 4294967296, Nat.mod (Nat.add v2 c) 4294967296, Nat.mod (Nat.add v3 d) 4294967296, Nat.mod (Nat.add v4 e) 4294967296, Nat.mod (Nat.add v5 f) 4294967296, Nat.mod (Nat.add v6 g) 4294967296, Nat.mod (Nat.add v7 h) 4294967296]
  | _ => []
def n_bk (l : List Nat) (w : Nat → Nat) : List Nat := match l with
  | [v0, v1, v2, v3, v4, v5, v6, v7] => n_ad v0 v1 v2 v3 v4 v5 v6 v7 (n_go n_K (w 0) (w 1) (w 2) (w 3) (w 4) (w 5) (w 6) (w 7) (w 8) (w 9) (w 10) (w 11) (w 12) (w 13) (w 14) (w 15) v0 v1 v2 v3 v4 v5 v6 v7)
  | _ => []
def n_ok (l : List Nat) (f : Nat → Int32) : Prop := ∃ v0 v1 v2 v3 v4 v5 v6 v7 : Nat, l = [v0, v1, v2, v3, v4, v5, v6, v7] ∧ (v0 < 4294967296 ∧ v1 < 4294967296 ∧ v2 < 4294967296 ∧ v3 < 4294967296 ∧ v4 < 4294967296 ∧ v5 < 4294967296 ∧ v6 < 4294967296 ∧ v7 < 4294967296) ∧ f 0 = nI v0 ∧ f 1 = nI v1 ∧ f 2 = nI v2 ∧ f 3 = nI v3 ∧ f 4 = nI v4 ∧ f 5 = nI v5 ∧ f 6 = nI v6 ∧ f 7 = nI v7
set_option maxHeartbeats 2000000 in
set_option maxRecDepth 100000 in
theorem n_bk_ok {l : List Nat} {v w : Nat → Int32} {wn : Nat → Nat} (hl : n_ok l v) (hw : ∀ i, i < 16 → w i = nI (wn i) ∧ wn i < 4294967296) : n_ok (n_bk l wn) (sh_blk v w) := by
  obtain ⟨v0, v1, v2, v3, v4, v5, v6, v7, rfl, hb, hv⟩ := hl
  have e16 : ∀ i, i < 16 → sh_ext w 48 i = nI (wn i) := fun i hi => (sh_ext_st w 0 48 i (by omega)).trans (hw i hi).1
  obtain ⟨a, b, c, d, e, f, g, h, h1, h2, h3⟩ := n_go_ok (E := sh_ext w 48) (S := sh_of v) (sh_ext_r w) n_K 0 (wn 0) (wn 1) (wn 2) (wn 3) (wn 4) (wn 5) (wn 6) (wn 7) (wn 8) (wn 9) (wn 10) (wn 11) (wn 12) (wn 13) (wn 14) (wn 15) v0 v1 v2 v3 v4 v5 v6 v7 rfl (fun i hi => by rw [Nat.zero_add]; exact n_Kok i hi) ⟨fun _ => e16 0 (by decide), fun _ => e16 1 (by decide), fun _ => e16 2 (by decide), fun _ => e16 3 (by decide), fun _ => e16 4 (by decide), fun _ => e16 5 (by decide), fun _ => e16 6 (by decide), fun _ => e16 7 (by decide), fun _ => e16 8 (by decide), fun _ => e16 9 (by decide), fun _ => e16 10 (by decide), fun _ => e16 11 (by decide), fun _ => e16 12 (by decide), fun _ => e16 13 (by decide), fun _ => e16 14 (by decide), fun _ => e16 15 (by decide)⟩ ⟨(hw 0 (by decide)).2, (hw 1 (by decide)).2, (hw 2 (by decide)).2, (hw 3 (by decide)).2, (hw 4 (by decide)).2, (hw 5 (by decide)).2, (hw 6 (by decide)).2, (hw 7 (by decide)).2, (hw 8 (by decide)).2, (hw 9 (by decide)).2, (hw 10 (by decide)).2, (hw 11 (by decide)).2, (hw 12 (by decide)).2, (hw 13 (by decide)).2, (hw 14 (by decide)).2, (hw 15 (by decide)).2⟩ hb (by show sh_of v = _; unfold sh_of; rw [hv.1, hv.2.1, hv.2.2.1, hv.2.2.2.1, hv.2.2.2.2.1, hv.2.2.2.2.2.1, hv.2.2.2.2.2.2.1, hv.2.2.2.2.2.2.2])
  refine ⟨Nat.mod (Nat.add v0 a) 4294967296, Nat.mod (Nat.add v1 b) 4294967296, Nat.mod (Nat.add v2 c) 4294967296, Nat.mod (Nat.add v3 d) 4294967296, Nat.mod (Nat.add v4 e) 4294967296, Nat.mod (Nat.add v5 f) 4294967296, Nat.mod (Nat.add v6 g) 4294967296, Nat.mod (Nat.add v7 h) 4294967296, ?_, ⟨ni_ml _, ni_ml _, ni_ml _, ni_ml _, ni_ml _, ni_ml _, ni_ml _, ni_ml _⟩, ?_⟩
  · show n_ad v0 v1 v2 v3 v4 v5 v6 v7 (n_go n_K (wn 0) (wn 1) (wn 2) (wn 3) (wn 4) (wn 5) (wn 6) (wn 7) (wn 8) (wn 9) (wn 10) (wn 11) (wn 12) (wn 13) (wn 14) (wn 15) v0 v1 v2 v3 v4 v5 v6 v7) = _
    rw [h1]
    rfl
  · refine ⟨?_, ?_, ?_, ?_, ?_, ?_, ?_, ?_⟩
    · show v 0 + sh_pr (sh_rd (sh_ext w 48) (sh_of v) 64) 0 = _
      rw [h3, hv.1]
      show nI v0 + nI a = _
      rw [ni_add]
      exact (ni_mod _).symm
    · show v 1 + sh_pr (sh_rd (sh_ext w 48) (sh_of v) 64) 1 = _
      rw [h3, hv.2.1]
      show nI v1 + nI b = _
      rw [ni_add]
      exact (ni_mod _).symm
    · show v 2 + sh_pr (sh_rd (sh_ext w 48) (sh_of v) 64) 2 = _
      rw [h3, hv.2.2.1]
      show nI v2 + nI c = _
      rw [ni_add]
      exact (ni_mod _).symm
    · show v 3 + sh_pr (sh_rd (sh_ext w 48) (sh_of v) 64) 3 = _
      rw [h3, hv.2.2.2.1]
      show nI v3 + nI d = _
      rw [ni_add]
      exact (ni_mod _).symm
    · show v 4 + sh_pr (sh_rd (sh_ext w 48) (sh_of v) 64) 4 = _
      rw [h3, hv.2.2.2.2.1]
      show nI v4 + nI e = _
      rw [ni_add]
      exact (ni_mod _).symm
    · show v 5 + sh_pr (sh_rd (sh_ext w 48) (sh_of v) 64) 5 = _
      rw [h3, hv.2.2.2.2.2.1]
      show nI v5 + nI f = _
      rw [ni_add]
      exact (ni_mod _).symm
    · show v 6 + sh_pr (sh_rd (sh_ext w 48) (sh_of v) 64) 6 = _
      rw [h3, hv.2.2.2.2.2.2.1]
      show nI v6 + nI g = _
      rw [ni_add]
      exact (ni_mod _).symm
    · show v 7 + sh_pr (sh_rd (sh_ext w 48) (sh_of v) 64) 7 = _
      rw [h3, hv.2.2.2.2.2.2.2]
      show nI v7 + nI h = _
      rw [ni_add]
      exact (ni_mod _).symm
def n_by (g : Nat → Nat) (n p : Nat) : Nat := cond (Nat.blt p n) (Nat.mod (g p) 256) (cond (Nat.beq p n) 128 0)
def n_w1 (g : Nat → Nat) (n p : Nat) : Nat := Nat.add (Nat.mul (Nat.add (Nat.mul (Nat.add (Nat.mul (n_by g n p) 256) (n_by g n (Nat.add p 1))) 256) (n_by g n (Nat.add p 2))) 256) (n_by g n (Nat.add p 3))
def n_wd (g : Nat → Nat) (n fr i : Nat) : Nat := cond (Nat.ble (Nat.add n 9) (Nat.add fr 64)) (cond (Nat.beq i 15) (Nat.mul 8 n) (n_w1 g n (Nat.add fr (Nat.mul 4 i)))) (n_w1 g n (Nat.add fr (Nat.mul 4 i)))
def n_all (g : Nat → Nat) (n : Nat) : Nat → List Nat
  | 0 => [1779033703, 3144134277, 1013904242, 2773480762, 1359893119, 2600822924, 528734635, 1541459225]
  | b + 1 => n_bk (n_all g n b) (n_wd g n (Nat.mul 64 b))
def n_h (g : Nat → Nat) (n : Nat) : List Nat := n_all g n (Nat.add (Nat.div (Nat.add n 8) 64) 1)
theorem n_by_ok {f : Nat → Int32} {g : Nat → Nat} {a n : Nat} (h : ∀ i, i < n → bb (f (a + i)) = g i % 256) (p : Nat) : sh_by f a n p = n_by g n p ∧ n_by g n p < 256 := by
  unfold sh_by n_by
  by_cases c : p < n
  · rw [if_pos c, show Nat.blt p n = true from Nat.ble_eq_true_of_le c]
    exact ⟨h p c, Nat.mod_lt _ (by decide)⟩
  · rw [if_neg c, show Nat.blt p n = false from Bool.eq_false_iff.mpr (fun q => c (Nat.le_of_ble_eq_true q))]
    by_cases e : p = n
    · rw [if_pos e, show Nat.beq p n = true by rw [e]; exact Nat.beq_refl n]
      exact ⟨rfl, show (128 : Nat) < 256 by decide⟩
    · rw [if_neg e, show Nat.beq p n = false from Bool.eq_false_iff.mpr (fun q => e (Nat.eq_of_beq_eq_true q))]
      exact ⟨rfl, show (0 : Nat) < 256 by decide⟩
theorem n_w1_ok {f : Nat → Int32} {g : Nat → Nat} {a n : Nat} (h : ∀ i, i < n → bb (f (a + i)) = g i % 256) (p : Nat) : sh_w1 f a n p 4 = nI (n_w1 g n p) ∧ n_w1 g n p < 4294967296 := by
  have st : ∀ (x : Int32) (m b : Nat), x = nI m → b < 256 → (x <<< (nI 8 &&& 31)) ||| nI b = nI (m * 256 + b) := by
    intro x m b hx hb
    rw [hx, shl_nI m (by decide)]
    exact or_nI (k := 8) rfl hb
  have b0 := n_by_ok h p
  have b1 := n_by_ok h (p + 1)
  have b2 := n_by_ok h (p + 2)
  have b3 := n_by_ok h (p + 3)
  have e1 : sh_w1 f a n p 1 = nI (0 * 256 + n_by g n p) := by
    show (nI 0 <<< (nI 8 &&& 31)) ||| nI (sh_by f a n (p + 0)) = _
    rw [Nat.add_zero, b0.1]
    exact st _ 0 _ rfl b0.2
  rw [Nat.zero_mul, Nat.zero_add] at e1
  have e2 : sh_w1 f a n p 2 = nI (n_by g n p * 256 + n_by g n (p + 1)) := by
    show (sh_w1 f a n p 1 <<< (nI 8 &&& 31)) ||| nI (sh_by f a n (p + 1)) = _
    rw [b1.1]
    exact st _ _ _ e1 b1.2
  have e3 : sh_w1 f a n p 3 = nI ((n_by g n p * 256 + n_by g n (p + 1)) * 256 + n_by g n (p + 2)) := by
    show (sh_w1 f a n p 2 <<< (nI 8 &&& 31)) ||| nI (sh_by f a n (p + 2)) = _
    rw [b2.1]
    exact st _ _ _ e2 b2.2
  have e4 : sh_w1 f a n p 4 = nI (((n_by g n p * 256 + n_by g n (p + 1)) * 256 + n_by g n (p + 2)) * 256 + n_by g n (p + 3)) := by
    show (sh_w1 f a n p 3 <<< (nI 8 &&& 31)) ||| nI (sh_by f a n (p + 3)) = _
    rw [b3.1]
    exact st _ _ _ e3 b3.2
  refine ⟨e4, ?_⟩
  show ((n_by g n p * 256 + n_by g n (p + 1)) * 256 + n_by g n (p + 2)) * 256 + n_by g n (p + 3) < _
  have q0 := b0.2
  have q1 := b1.2
  have q2 := b2.2
  have q3 := b3.2
  omega
theorem n_wd_ok {f : Nat → Int32} {g : Nat → Nat} {a n : Nat} (h : ∀ i, i < n → bb (f (a + i)) = g i % 256) (hn : n < 1000000) (fr i : Nat) : sh_wd f a n fr i = nI (n_wd g n fr i) ∧ n_wd g n fr i < 4294967296 := by
  have q := n_w1_ok h (fr + 4 * i)
  unfold sh_wd n_wd
  by_cases c1 : n + 9 ≤ fr + 64
  · rw [show Nat.ble (Nat.add n 9) (Nat.add fr 64) = true from Nat.ble_eq_true_of_le c1]
    by_cases c2 : i = 15
    · rw [if_pos ⟨c1, c2⟩, show Nat.beq i 15 = true by rw [c2]; rfl]
      exact ⟨rfl, show 8 * n < 4294967296 by omega⟩
    · rw [if_neg (fun x => c2 x.2), show Nat.beq i 15 = false from Bool.eq_false_iff.mpr (fun x => c2 (Nat.eq_of_beq_eq_true x))]
      exact q
  · rw [if_neg (fun x => c1 x.1), show Nat.ble (Nat.add n 9) (Nat.add fr 64) = false from Bool.eq_false_iff.mpr (fun x => c1 (Nat.le_of_ble_eq_true x))]
    exact q
theorem iv_ok : hz_sf 0 0 = nI 1779033703 ∧ hz_sf 0 1 = nI 3144134277 ∧ hz_sf 0 2 = nI 1013904242 ∧ hz_sf 0 3 = nI 2773480762 ∧ hz_sf 0 4 = nI 1359893119 ∧ hz_sf 0 5 = nI 2600822924 ∧ hz_sf 0 6 = nI 528734635 ∧ hz_sf 0 7 = nI 1541459225 := by decide
theorem n_all_ok {f : Nat → Int32} {g : Nat → Nat} {a n : Nat} (h : ∀ i, i < n → bb (f (a + i)) = g i % 256) (hn : n < 1000000) : ∀ b, n_ok (n_all g n b) (sh_all f a n b) := by
  intro b
  induction b with
  | zero => exact ⟨1779033703, 3144134277, 1013904242, 2773480762, 1359893119, 2600822924, 528734635, 1541459225, rfl, by decide, iv_ok⟩
  | succ b ih => exact n_bk_ok ih (fun i _ => n_wd_ok h hn (64 * b) i)
theorem n_h_ok {f : Nat → Int32} {g : Nat → Nat} {a n : Nat} (h : ∀ i, i < n → bb (f (a + i)) = g i % 256) (hn : n < 1000000) : n_ok (n_h g n) (sh_h f a n) := n_all_ok h hn _
