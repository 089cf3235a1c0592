/-! link, post, message, messageByte, alter -/
theorem stI_b (u : Bool) : ¬ stI u = (-1) := by cases u <;> decide
theorem isA_sA {f : Nat → Int32} {a i : Nat} {l : by_L} {x : Int32} (h : isA f a l) : isA (upd f (a + i) x) a (l.set i x) := by
  intro j hj
  rw [List.length_set] at hj
  have q := h j hj
  unfold lf at q ⊢
  rw [List.getD_eq_getElem?_getD] at q ⊢
  by_cases c : j = i
  · rw [c] at hj ⊢
    rw [upd_s, List.getElem?_set_self hj]; rfl
  · rw [upd_o (by omega), List.getElem?_set_ne (fun e => c e.symm)]; exact q
theorem isA_so {f : Nat → Int32} {a p : Nat} {l : by_L} {x : Int32} (h : isA f a l) (hp : p < a ∨ a + l.length ≤ p) : isA (upd f p x) a l := fun j hj => (upd_o (by omega)).trans (h j hj)
theorem rowL_set {L : List by_L} {k : Nat} {t : by_L} (hk : k < L.length) (j : Nat) : rowL (L.set k t) j = if j = k then t else rowL L j := by
  unfold rowL
  rw [List.getD_eq_getElem?_getD, List.getD_eq_getElem?_getD]
  by_cases c : j = k
  · rw [c, List.getElem?_set_self hk, if_pos rfl]; rfl
  · rw [List.getElem?_set_ne (fun e => c e.symm), if_neg c]
theorem offL_set {L : List by_L} {k : Nat} {t : by_L} (hk : k < L.length) (ht : t.length = (rowL L k).length) : ∀ j, offL (L.set k t) j = offL L j := by
  intro j
  induction j with
  | zero => rfl
  | succ j ih =>
    simp only [offL]
    rw [ih, rowL_set hk]
    by_cases c : j = k
    · rw [if_pos c, ht, c]
    · rw [if_neg c]
theorem msL_set {q : List ms_M} {k : Nat} {m : ms_M} (hk : k < q.length) (j : Nat) : msL (q.set k m) j = if j = k then m else msL q j := by
  unfold msL
  rw [List.getD_eq_getElem?_getD, List.getD_eq_getElem?_getD]
  by_cases c : j = k
  · rw [c, List.getElem?_set_self hk, if_pos rfl]; rfl
  · rw [List.getElem?_set_ne (fun e => c e.symm), if_neg c]
/-- a byte of a message -/
def alM (q : List ms_M) (k i : Nat) (x : Int32) : ms_M := ((msL q k).1, (msL q k).2.1, (msL q k).2.2.1, (msL q k).2.2.2.1, (msL q k).2.2.2.2.set i x)
def alQ (q : List ms_M) (k i : Nat) (x : Int32) : List ms_M := q.set k (alM q k i x)
theorem alQ_B {q : List ms_M} {k i : Nat} {x : Int32} : msB (alQ q k i x) = (msB q).set k ((rowL (msB q) k).set i x) := by
  unfold alQ alM
  rw [rowL_ms]
  unfold msB
  rw [List.map_set]
theorem alQ_len (q : List ms_M) (k i : Nat) (x : Int32) : (alQ q k i x).length = q.length := List.length_set
theorem alQ_O {q : List ms_M} {k i : Nat} {x : Int32} (hk : k < q.length) (j : Nat) : msO (alQ q k i x) j = msO q j := by
  unfold msO
  rw [alQ_B]
  exact offL_set (by rw [msB_len]; exact hk) List.length_set j
theorem alQ_X {f1 f2 f3 f4 : Nat → Int32} {q : List ms_M} {k i : Nat} {x : Int32} (hk : k < q.length) (h : msX f1 f2 f3 f4 q) : msX f1 f2 f3 f4 (alQ q k i x) := by
  intro j hj
  rw [alQ_len] at hj
  rw [show msL (alQ q k i x) j = if j = k then alM q k i x else msL q j from msL_set hk j]
  by_cases c : j = k
  · rw [if_pos c, c]; exact h k hk
  · rw [if_neg c]; exact h j hj
theorem alQ_A {f : Nat → Int32} {q : List ms_M} {k i : Nat} {x : Int32} (hk : k < q.length) (hi : i < (msL q k).2.2.2.2.length) (h : ∀ j, j < q.length → isA f (msO q j) (msL q j).2.2.2.2) : ∀ j, j < q.length → isA (upd f (msO q k + i) x) (msO q j) (msL (alQ q k i x) j).2.2.2.2 := by
  intro j hj
  rw [show msL (alQ q k i x) j = if j = k then alM q k i x else msL q j from msL_set hk j]
  by_cases c : j = k
  · rw [if_pos c, c]; exact isA_sA (h k hk)
  · rw [if_neg c]
    refine isA_so (h j hj) ?_
    rcases (by omega : j < k ∨ k < j) with g | g
    · have r := msO_mo (q := q) (show j + 1 ≤ k by omega); rw [msO_st] at r; right; omega
    · have r := msO_mo (q := q) (show k + 1 ≤ j by omega); rw [msO_st] at r; left; omega
theorem dlS_m {f : Nat → Int32} {dl : Nat → Nat} {a b d : Nat} (h : ∀ k, k < 36 → f k = nI (dl k) ∧ dl k ≤ 9) (hd : d ≤ 9) : ∀ k, k < 36 → upd (upd f (6 * a + b) (nI d)) (6 * b + a) (nI d) k = nI (dlS dl a b d k) ∧ dlS dl a b d k ≤ 9 := by
  intro k hk
  unfold dlS
  by_cases c : k = 6 * b + a
  · rw [if_pos c, c, upd_s]; exact ⟨rfl, hd⟩
  · rw [if_neg c, upd_o c]
    by_cases c2 : k = 6 * a + b
    · rw [if_pos c2, c2, upd_s]; exact ⟨rfl, hd⟩
    · rw [if_neg c2, upd_o c2]; exact h k hk
set_option maxHeartbeats 4000000 in
set_option maxRecDepth 100000 in
theorem c_link {κ : hz_C} {z : Nat} {M : hz_M} {H : ho_H} (hz : 63 + 34 * (hoN H).length ≤ z) (hnn : (hoN H).length ≤ 6) (hT4 : (hoT H).length ≤ 4000) {ll : Nat} {fr kn : Int32} (hR : hcR M z H ll fr kn) {a b d : Nat} (ha : a < (hoN H).length) (hb : b < (hoN H).length) (hab : ¬ a = b) (hd : d ≤ 9) : hz_Mt κ xX11_link 2 0 0 [.ref 8, .int (nI a), .int (nI b), .int (nI d)] z M (hcP M z H (.int (nI (hoD H (6 * a + b)))) (hol H (dlS (hoD H) a b d))) := by
  refine hz_ent (lo := [(0, .ref 8), (1, .int (nI a)), (2, .int (nI b)), (3, .int (nI d))]) (by decide) (Nat.le_of_ble_eq_true rfl) rfl ?_
  have hH := hR.1
  have hNs := hR.2.1
  obtain ⟨hO, hQ, hD⟩ := id hR.2.2.2.2.1
  obtain ⟨g53, h53⟩ := hR.2.2.2.2.2.1
  have hJ := hR.2.2.2.1
  obtain ⟨g56, h56, hT56⟩ := hR.2.2.2.2.2.2.2.2.2.1
  have hdf := hR.2.2.2.2.2.2.2.2.2.2
  have hck : ck_k M z := hJ.2.2.2.2.2.2.2.1
  have hcs : ck_s M := hJ.2.2.2.2.2.2.2.2.1
  have hz63 : 63 ≤ z := by omega
  refine hz_aloadn (pc := 0) 0 (hz_dec kX11_link 0 rfl) rfl ?_
  refine hz_iloadn (pc := 1) 1 (hz_dec kX11_link 1 rfl) rfl ?_
  refine hz_xV (pc := 2) (a := 8) (As := [.int (nI a)]) (st := []) (hz_dec kX11_link 2 rfl) co_X11_162 im_X11_nodeOf se_X11_nodeOf rfl hH (by omega) (by omega) (c_nOf hz63 hH hnn hNs (b := a) ha) rfl (by decide) ⟨Nat.le_refl _, Nat.le_refl _⟩ (Nat.le_of_ble_eq_true rfl) rfl ?_
  refine hz_ifnull (pc := 5) (hz_dec kX11_link 3 rfl) ?_
  refine hz_aloadn (pc := 8) 0 (hz_dec kX11_link 4 rfl) rfl ?_
  refine hz_iloadn (pc := 9) 2 (hz_dec kX11_link 5 rfl) rfl ?_
  refine hz_xV (pc := 10) (a := 8) (As := [.int (nI b)]) (st := []) (hz_dec kX11_link 6 rfl) co_X11_162 im_X11_nodeOf se_X11_nodeOf rfl hH (by omega) (by omega) (c_nOf hz63 hH hnn hNs (b := b) hb) rfl (by decide) ⟨Nat.le_refl _, Nat.le_refl _⟩ (Nat.le_of_ble_eq_true rfl) rfl ?_
  refine hz_ifnull (pc := 13) (hz_dec kX11_link 7 rfl) ?_
  refine hz_iloadn (pc := 16) 1 (hz_dec kX11_link 8 rfl) rfl ?_
  refine hz_iloadn (pc := 17) 2 (hz_dec kX11_link 9 rfl) rfl ?_
  refine hz_n_eq (pc := 18) (tgt := 31) (hz_dec kX11_link 10 rfl) (by decide) (by omega) (by omega) (fun h1 => ?_) (fun h1 => ?_)
  · skip
    exact absurd h1 hab
  · skip
    refine hz_iloadn (pc := 21) 3 (hz_dec kX11_link 11 rfl) rfl ?_
    refine hz_z_lt (pc := 22) (tgt := 31) (hz_dec kX11_link 12 rfl) (by decide) (by omega) ?_
    refine hz_iloadn (pc := 25) 3 (hz_dec kX11_link 13 rfl) rfl ?_
    refine hz_bipush (pc := 26) (v := nI 9) (hz_dec kX11_link 14 rfl) (by decide) ?_
    refine hz_n_le (pc := 28) (tgt := 33) (hz_dec kX11_link 15 rfl) (by decide) (by omega) (by omega) (fun h3 => ?_) (fun h3 => ?_)
    · skip
      refine hz_aloadn (pc := 33) 0 (hz_dec kX11_link 18 rfl) rfl ?_
      refine hz_get (pc := 34) (hz_dec kX11_link 19 rfl) fo_X11_62 hH (by omega) (by omega) rfl ?_
      refine hz_iloadn (pc := 37) 1 (hz_dec kX11_link 20 rfl) rfl ?_
      refine hz_iloadn (pc := 38) 2 (hz_dec kX11_link 21 rfl) rfl ?_
      refine hz_xV (pc := 39) (a := 45) (As := [.int (nI a), .int (nI b)]) (st := []) (hz_dec kX11_link 22 rfl) co_X11_313 im_X5_delayOf se_X5_delayOf rfl hO (by omega) (by omega) (c_dly hz63 hO hnn hD ha hb) rfl (by decide) ⟨Nat.le_refl _, Nat.le_refl _⟩ (Nat.le_of_ble_eq_true rfl) rfl ?_
      refine hz_istore (pc := 42) (i := 4) (lo2 := [(4, .int (nI (hoD H (6 * a + b)))), (0, .ref 8), (1, .int (nI a)), (2, .int (nI b)), (3, .int (nI d))]) (hz_dec kX11_link 23 rfl) (by decide) rfl ?_
      refine hz_aloadn (pc := 44) 1 (hz_dec kX11_link 24 rfl) rfl ?_
      refine hz_get (pc := 45) (hz_dec kX11_link 25 rfl) fo_X11_62 hH (by omega) (by omega) rfl ?_
      refine hz_iloadn (pc := 48) 2 (hz_dec kX11_link 26 rfl) rfl ?_
      refine hz_iloadn (pc := 49) 3 (hz_dec kX11_link 27 rfl) rfl ?_
      refine hz_iloadn (pc := 50) 4 (hz_dec kX11_link 28 rfl) rfl ?_
      refine hz_callV (pc := 51) (a := 45) (As := [.int (nI a), .int (nI b), .int (nI d)]) (st := []) (hz_dec kX11_link 29 rfl) co_X11_316 im_X5_setDelay se_X5_setDelay rfl hO (by omega) (by omega) (c_sdly hz63 hO hnn hD ha hb hd) rfl (by decide) ⟨Nat.le_refl _, Nat.le_refl _⟩ (Nat.le_of_ble_eq_true rfl) rfl (fun r9 z9 M3 hp9 => ?_)
      obtain ⟨rfl, rfl, hf3, hD3⟩ := hp9
      refine hz_iload (pc := 54) 0 (hz_dec kX11_link 30 rfl) rfl ?_
      exact hz_iret (pc := 56) (hz_dec kX11_link 31 rfl) rfl ⟨rfl, rfl, (hf3.mono (fun q (h9 : outS [(8, 63 + 34 * (hoN H).length)] q) => ⟨by have r := h9.1; omega, trivial⟩)), ll, fr, kn, hR.l hf3 hD3⟩
    · skip
      exact absurd hd (by omega)
set_option maxHeartbeats 4000000 in
set_option maxRecDepth 100000 in
theorem c_linkB1 {κ : hz_C} {z : Nat} {M : hz_M} {H : ho_H} (hz : 63 + 34 * (hoN H).length ≤ z) (hnn : (hoN H).length ≤ 6) (hT4 : (hoT H).length ≤ 4000) {ll : Nat} {fr kn : Int32} (hR : hcR M z H ll fr kn) {a b d : Int32} (ha : a < 0 ∨ ¬ a < nI (hoN H).length) : hz_Mt κ xX11_link 2 0 0 [.ref 8, .int a, .int b, .int d] z M (hcP M z H (.int (-1)) H) := by
  refine hz_ent (lo := [(0, .ref 8), (1, .int a), (2, .int b), (3, .int d)]) (by decide) (Nat.le_of_ble_eq_true rfl) rfl ?_
  have hH := hR.1
  have hNs := hR.2.1
  obtain ⟨hO, hQ, hD⟩ := id hR.2.2.2.2.1
  obtain ⟨g53, h53⟩ := hR.2.2.2.2.2.1
  have hJ := hR.2.2.2.1
  obtain ⟨g56, h56, hT56⟩ := hR.2.2.2.2.2.2.2.2.2.1
  have hdf := hR.2.2.2.2.2.2.2.2.2.2
  have hck : ck_k M z := hJ.2.2.2.2.2.2.2.1
  have hcs : ck_s M := hJ.2.2.2.2.2.2.2.2.1
  have hz63 : 63 ≤ z := by omega
  refine hz_aloadn (pc := 0) 0 (hz_dec kX11_link 0 rfl) rfl ?_
  refine hz_iloadn (pc := 1) 1 (hz_dec kX11_link 1 rfl) rfl ?_
  refine hz_xV (pc := 2) (a := 8) (As := [.int a]) (st := []) (hz_dec kX11_link 2 rfl) co_X11_162 im_X11_nodeOf se_X11_nodeOf rfl hH (by omega) (by omega) (c_nOfN hz63 hH hnn hNs ha) rfl (by decide) ⟨Nat.le_refl _, Nat.le_refl _⟩ (Nat.le_of_ble_eq_true rfl) rfl ?_
  refine hz_ifnullN (pc := 5) (tgt := 31) (hz_dec kX11_link 3 rfl) (by decide) ?_
  refine hz_iconst (pc := 31) (v := (-1)) (hz_dec kX11_link 16 rfl) (by decide) ?_
  exact hz_iret (pc := 32) (hz_dec kX11_link 17 rfl) rfl (hcP.no hR _)
set_option maxHeartbeats 4000000 in
set_option maxRecDepth 100000 in
theorem c_linkB2 {κ : hz_C} {z : Nat} {M : hz_M} {H : ho_H} (hz : 63 + 34 * (hoN H).length ≤ z) (hnn : (hoN H).length ≤ 6) (hT4 : (hoT H).length ≤ 4000) {ll : Nat} {fr kn : Int32} (hR : hcR M z H ll fr kn) {a : Nat} {b d : Int32} (ha : a < (hoN H).length) (hb : b < 0 ∨ ¬ b < nI (hoN H).length) : hz_Mt κ xX11_link 2 0 0 [.ref 8, .int (nI a), .int b, .int d] z M (hcP M z H (.int (-1)) H) := by
  refine hz_ent (lo := [(0, .ref 8), (1, .int (nI a)), (2, .int b), (3, .int d)]) (by decide) (Nat.le_of_ble_eq_true rfl) rfl ?_
  have hH := hR.1
  have hNs := hR.2.1
  obtain ⟨hO, hQ, hD⟩ := id hR.2.2.2.2.1
  obtain ⟨g53, h53⟩ := hR.2.2.2.2.2.1
  have hJ := hR.2.2.2.1
  obtain ⟨g56, h56, hT56⟩ := hR.2.2.2.2.2.2.2.2.2.1
  have hdf := hR.2.2.2.2.2.2.2.2.2.2
  have hck : ck_k M z := hJ.2.2.2.2.2.2.2.1
  have hcs : ck_s M := hJ.2.2.2.2.2.2.2.2.1
  have hz63 : 63 ≤ z := by omega
  refine hz_aloadn (pc := 0) 0 (hz_dec kX11_link 0 rfl) rfl ?_
  refine hz_iloadn (pc := 1) 1 (hz_dec kX11_link 1 rfl) rfl ?_
  refine hz_xV (pc := 2) (a := 8) (As := [.int (nI a)]) (st := []) (hz_dec kX11_link 2 rfl) co_X11_162 im_X11_nodeOf se_X11_nodeOf rfl hH (by omega) (by omega) (c_nOf hz63 hH hnn hNs (b := a) ha) rfl (by decide) ⟨Nat.le_refl _, Nat.le_refl _⟩ (Nat.le_of_ble_eq_true rfl) rfl ?_
  refine hz_ifnull (pc := 5) (hz_dec kX11_link 3 rfl) ?_
  refine hz_aloadn (pc := 8) 0 (hz_dec kX11_link 4 rfl) rfl ?_
  refine hz_iloadn (pc := 9) 2 (hz_dec kX11_link 5 rfl) rfl ?_
  refine hz_xV (pc := 10) (a := 8) (As := [.int b]) (st := []) (hz_dec kX11_link 6 rfl) co_X11_162 im_X11_nodeOf se_X11_nodeOf rfl hH (by omega) (by omega) (c_nOfN hz63 hH hnn hNs hb) rfl (by decide) ⟨Nat.le_refl _, Nat.le_refl _⟩ (Nat.le_of_ble_eq_true rfl) rfl ?_
  refine hz_ifnullN (pc := 13) (tgt := 31) (hz_dec kX11_link 7 rfl) (by decide) ?_
  refine hz_iconst (pc := 31) (v := (-1)) (hz_dec kX11_link 16 rfl) (by decide) ?_
  exact hz_iret (pc := 32) (hz_dec kX11_link 17 rfl) rfl (hcP.no hR _)
set_option maxHeartbeats 4000000 in
set_option maxRecDepth 100000 in
theorem c_linkB3 {κ : hz_C} {z : Nat} {M : hz_M} {H : ho_H} (hz : 63 + 34 * (hoN H).length ≤ z) (hnn : (hoN H).length ≤ 6) (hT4 : (hoT H).length ≤ 4000) {ll : Nat} {fr kn : Int32} (hR : hcR M z H ll fr kn) {a b : Nat} {d : Int32} (ha : a < (hoN H).length) (hb : b < (hoN H).length) (h : a = b ∨ d < 0 ∨ ¬ d ≤ nI 9) : hz_Mt κ xX11_link 2 0 0 [.ref 8, .int (nI a), .int (nI b), .int d] z M (hcP M z H (.int (-1)) H) := by
  refine hz_ent (lo := [(0, .ref 8), (1, .int (nI a)), (2, .int (nI b)), (3, .int d)]) (by decide) (Nat.le_of_ble_eq_true rfl) rfl ?_
  have hH := hR.1
  have hNs := hR.2.1
  obtain ⟨hO, hQ, hD⟩ := id hR.2.2.2.2.1
  obtain ⟨g53, h53⟩ := hR.2.2.2.2.2.1
  have hJ := hR.2.2.2.1
  obtain ⟨g56, h56, hT56⟩ := hR.2.2.2.2.2.2.2.2.2.1
  have hdf := hR.2.2.2.2.2.2.2.2.2.2
  have hck : ck_k M z := hJ.2.2.2.2.2.2.2.1
  have hcs : ck_s M := hJ.2.2.2.2.2.2.2.2.1
  have hz63 : 63 ≤ z := by omega
  refine hz_aloadn (pc := 0) 0 (hz_dec kX11_link 0 rfl) rfl ?_
  refine hz_iloadn (pc := 1) 1 (hz_dec kX11_link 1 rfl) rfl ?_
  refine hz_xV (pc := 2) (a := 8) (As := [.int (nI a)]) (st := []) (hz_dec kX11_link 2 rfl) co_X11_162 im_X11_nodeOf se_X11_nodeOf rfl hH (by omega) (by omega) (c_nOf hz63 hH hnn hNs (b := a) ha) rfl (by decide) ⟨Nat.le_refl _, Nat.le_refl _⟩ (Nat.le_of_ble_eq_true rfl) rfl ?_
  refine hz_ifnull (pc := 5) (hz_dec kX11_link 3 rfl) ?_
  refine hz_aloadn (pc := 8) 0 (hz_dec kX11_link 4 rfl) rfl ?_
  refine hz_iloadn (pc := 9) 2 (hz_dec kX11_link 5 rfl) rfl ?_
  refine hz_xV (pc := 10) (a := 8) (As := [.int (nI b)]) (st := []) (hz_dec kX11_link 6 rfl) co_X11_162 im_X11_nodeOf se_X11_nodeOf rfl hH (by omega) (by omega) (c_nOf hz63 hH hnn hNs (b := b) hb) rfl (by decide) ⟨Nat.le_refl _, Nat.le_refl _⟩ (Nat.le_of_ble_eq_true rfl) rfl ?_
  refine hz_ifnull (pc := 13) (hz_dec kX11_link 7 rfl) ?_
  refine hz_iloadn (pc := 16) 1 (hz_dec kX11_link 8 rfl) rfl ?_
  refine hz_iloadn (pc := 17) 2 (hz_dec kX11_link 9 rfl) rfl ?_
  refine hz_n_eq (pc := 18) (tgt := 31) (hz_dec kX11_link 10 rfl) (by decide) (by omega) (by omega) (fun h1 => ?_) (fun h1 => ?_)
  · skip
    refine hz_iconst (pc := 31) (v := (-1)) (hz_dec kX11_link 16 rfl) (by decide) ?_
    exact hz_iret (pc := 32) (hz_dec kX11_link 17 rfl) rfl (hcP.no hR _)
  · skip
    refine hz_iloadn (pc := 21) 3 (hz_dec kX11_link 11 rfl) rfl ?_
    refine hz_if_lt (pc := 22) (tgt := 31) (hz_dec kX11_link 12 rfl) (by decide) (fun h2 => ?_) (fun h2 => ?_)
    · skip
      refine hz_iconst (pc := 31) (v := (-1)) (hz_dec kX11_link 16 rfl) (by decide) ?_
      exact hz_iret (pc := 32) (hz_dec kX11_link 17 rfl) rfl (hcP.no hR _)
    · skip
      refine hz_iloadn (pc := 25) 3 (hz_dec kX11_link 13 rfl) rfl ?_
      refine hz_bipush (pc := 26) (v := nI 9) (hz_dec kX11_link 14 rfl) (by decide) ?_
      refine hz_icmp_le (pc := 28) (tgt := 33) (hz_dec kX11_link 15 rfl) (by decide) (fun h3 => ?_) (fun h3 => ?_)
      · skip
        exact absurd h3 ((h.resolve_left h1).resolve_left h2)
      · skip
        refine hz_iconst (pc := 31) (v := (-1)) (hz_dec kX11_link 16 rfl) (by decide) ?_
        exact hz_iret (pc := 32) (hz_dec kX11_link 17 rfl) rfl (hcP.no hR _)
set_option maxHeartbeats 4000000 in
set_option maxRecDepth 100000 in
theorem c_postB1 {κ : hz_C} {z : Nat} {M : hz_M} {H : ho_H} (hz : 63 + 34 * (hoN H).length ≤ z) (hnn : (hoN H).length ≤ 6) (hT4 : (hoT H).length ≤ 4000) {ll : Nat} {fr kn : Int32} (hR : hcR M z H ll fr kn) {a b d : Int32} (ha : a < 0 ∨ ¬ a < nI (hoN H).length) : hz_Mt κ xX11_post 4 0 0 [.ref 8, .int a, .int b, .int d] z M (hcP M z H (.int (-1)) H) := by
  refine hz_ent (lo := [(0, .ref 8), (1, .int a), (2, .int b), (3, .int d)]) (by decide) (Nat.le_of_ble_eq_true rfl) rfl ?_
  have hH := hR.1
  have hNs := hR.2.1
  obtain ⟨hO, hQ, hD⟩ := id hR.2.2.2.2.1
  obtain ⟨g53, h53⟩ := hR.2.2.2.2.2.1
  have hJ := hR.2.2.2.1
  obtain ⟨g56, h56, hT56⟩ := hR.2.2.2.2.2.2.2.2.2.1
  have hdf := hR.2.2.2.2.2.2.2.2.2.2
  have hck : ck_k M z := hJ.2.2.2.2.2.2.2.1
  have hcs : ck_s M := hJ.2.2.2.2.2.2.2.2.1
  have hz63 : 63 ≤ z := by omega
  refine hz_aloadn (pc := 0) 0 (hz_dec kX11_post 0 rfl) rfl ?_
  refine hz_iloadn (pc := 1) 1 (hz_dec kX11_post 1 rfl) rfl ?_
  refine hz_xV (pc := 2) (a := 8) (As := [.int a]) (st := []) (hz_dec kX11_post 2 rfl) co_X11_162 im_X11_nodeOf se_X11_nodeOf rfl hH (by omega) (by omega) (c_nOfN hz63 hH hnn hNs ha) rfl (by decide) ⟨Nat.le_refl _, Nat.le_refl _⟩ (Nat.le_of_ble_eq_true rfl) rfl ?_
  refine hz_ifnullN (pc := 5) (tgt := 21) (hz_dec kX11_post 3 rfl) (by decide) ?_
  refine hz_iconst (pc := 21) (v := (-1)) (hz_dec kX11_post 11 rfl) (by decide) ?_
  exact hz_iret (pc := 22) (hz_dec kX11_post 12 rfl) rfl (hcP.no hR _)
set_option maxHeartbeats 4000000 in
set_option maxRecDepth 100000 in
theorem c_postB2 {κ : hz_C} {z : Nat} {M : hz_M} {H : ho_H} (hz : 63 + 34 * (hoN H).length ≤ z) (hnn : (hoN H).length ≤ 6) (hT4 : (hoT H).length ≤ 4000) {ll : Nat} {fr kn : Int32} (hR : hcR M z H ll fr kn) {a : Nat} {b d : Int32} (ha : a < (hoN H).length) (hb : b < 0 ∨ ¬ b < nI (hoN H).length) : hz_Mt κ xX11_post 4 0 0 [.ref 8, .int (nI a), .int b, .int d] z M (hcP M z H (.int (-1)) H) := by
  refine hz_ent (lo := [(0, .ref 8), (1, .int (nI a)), (2, .int b), (3, .int d)]) (by decide) (Nat.le_of_ble_eq_true rfl) rfl ?_
  have hH := hR.1
  have hNs := hR.2.1
  obtain ⟨hO, hQ, hD⟩ := id hR.2.2.2.2.1
  obtain ⟨g53, h53⟩ := hR.2.2.2.2.2.1
  have hJ := hR.2.2.2.1
  obtain ⟨g56, h56, hT56⟩ := hR.2.2.2.2.2.2.2.2.2.1
  have hdf := hR.2.2.2.2.2.2.2.2.2.2
  have hck : ck_k M z := hJ.2.2.2.2.2.2.2.1
  have hcs : ck_s M := hJ.2.2.2.2.2.2.2.2.1
  have hz63 : 63 ≤ z := by omega
  refine hz_aloadn (pc := 0) 0 (hz_dec kX11_post 0 rfl) rfl ?_
  refine hz_iloadn (pc := 1) 1 (hz_dec kX11_post 1 rfl) rfl ?_
  refine hz_xV (pc := 2) (a := 8) (As := [.int (nI a)]) (st := []) (hz_dec kX11_post 2 rfl) co_X11_162 im_X11_nodeOf se_X11_nodeOf rfl hH (by omega) (by omega) (c_nOf hz63 hH hnn hNs (b := a) ha) rfl (by decide) ⟨Nat.le_refl _, Nat.le_refl _⟩ (Nat.le_of_ble_eq_true rfl) rfl ?_
  refine hz_ifnull (pc := 5) (hz_dec kX11_post 3 rfl) ?_
  refine hz_aloadn (pc := 8) 0 (hz_dec kX11_post 4 rfl) rfl ?_
  refine hz_iloadn (pc := 9) 2 (hz_dec kX11_post 5 rfl) rfl ?_
  refine hz_xV (pc := 10) (a := 8) (As := [.int b]) (st := []) (hz_dec kX11_post 6 rfl) co_X11_162 im_X11_nodeOf se_X11_nodeOf rfl hH (by omega) (by omega) (c_nOfN hz63 hH hnn hNs hb) rfl (by decide) ⟨Nat.le_refl _, Nat.le_refl _⟩ (Nat.le_of_ble_eq_true rfl) rfl ?_
  refine hz_ifnullN (pc := 13) (tgt := 21) (hz_dec kX11_post 7 rfl) (by decide) ?_
  refine hz_iconst (pc := 21) (v := (-1)) (hz_dec kX11_post 11 rfl) (by decide) ?_
  exact hz_iret (pc := 22) (hz_dec kX11_post 12 rfl) rfl (hcP.no hR _)
set_option maxHeartbeats 4000000 in
set_option maxRecDepth 100000 in
theorem c_postB3 {κ : hz_C} {z : Nat} {M : hz_M} {H : ho_H} (hz : 63 + 34 * (hoN H).length ≤ z) (hnn : (hoN H).length ≤ 6) (hT4 : (hoT H).length ≤ 4000) {ll : Nat} {fr kn : Int32} (hR : hcR M z H ll fr kn) {a b : Nat} {d : Int32} (ha : a < (hoN H).length) (hb : b < (hoN H).length) (h : a = b ∨ d < nI 1 ∨ ¬ d ≤ nI 6) : hz_Mt κ xX11_post 4 0 0 [.ref 8, .int (nI a), .int (nI b), .int d] z M (hcP M z H (.int (-1)) H) := by
  refine hz_ent (lo := [(0, .ref 8), (1, .int (nI a)), (2, .int (nI b)), (3, .int d)]) (by decide) (Nat.le_of_ble_eq_true rfl) rfl ?_
  have hH := hR.1
  have hNs := hR.2.1
  obtain ⟨hO, hQ, hD⟩ := id hR.2.2.2.2.1
  obtain ⟨g53, h53⟩ := hR.2.2.2.2.2.1
  have hJ := hR.2.2.2.1
  obtain ⟨g56, h56, hT56⟩ := hR.2.2.2.2.2.2.2.2.2.1
  have hdf := hR.2.2.2.2.2.2.2.2.2.2
  have hck : ck_k M z := hJ.2.2.2.2.2.2.2.1
  have hcs : ck_s M := hJ.2.2.2.2.2.2.2.2.1
  have hz63 : 63 ≤ z := by omega
  refine hz_aloadn (pc := 0) 0 (hz_dec kX11_post 0 rfl) rfl ?_
  refine hz_iloadn (pc := 1) 1 (hz_dec kX11_post 1 rfl) rfl ?_
  refine hz_xV (pc := 2) (a := 8) (As := [.int (nI a)]) (st := []) (hz_dec kX11_post 2 rfl) co_X11_162 im_X11_nodeOf se_X11_nodeOf rfl hH (by omega) (by omega) (c_nOf hz63 hH hnn hNs (b := a) ha) rfl (by decide) ⟨Nat.le_refl _, Nat.le_refl _⟩ (Nat.le_of_ble_eq_true rfl) rfl ?_
  refine hz_ifnull (pc := 5) (hz_dec kX11_post 3 rfl) ?_
  refine hz_aloadn (pc := 8) 0 (hz_dec kX11_post 4 rfl) rfl ?_
  refine hz_iloadn (pc := 9) 2 (hz_dec kX11_post 5 rfl) rfl ?_
  refine hz_xV (pc := 10) (a := 8) (As := [.int (nI b)]) (st := []) (hz_dec kX11_post 6 rfl) co_X11_162 im_X11_nodeOf se_X11_nodeOf rfl hH (by omega) (by omega) (c_nOf hz63 hH hnn hNs (b := b) hb) rfl (by decide) ⟨Nat.le_refl _, Nat.le_refl _⟩ (Nat.le_of_ble_eq_true rfl) rfl ?_
  refine hz_ifnull (pc := 13) (hz_dec kX11_post 7 rfl) ?_
  refine hz_iloadn (pc := 16) 1 (hz_dec kX11_post 8 rfl) rfl ?_
  refine hz_iloadn (pc := 17) 2 (hz_dec kX11_post 9 rfl) rfl ?_
  refine hz_n_ne (pc := 18) (tgt := 23) (hz_dec kX11_post 10 rfl) (by decide) (by omega) (by omega) (fun h1 => ?_) (fun h1 => ?_)
  · skip
    refine hz_iloadn (pc := 23) 3 (hz_dec kX11_post 13 rfl) rfl ?_
    refine hz_iconst (pc := 24) (v := nI 1) (hz_dec kX11_post 14 rfl) (by decide) ?_
    refine hz_icmp_lt (pc := 25) (tgt := 34) (hz_dec kX11_post 15 rfl) (by decide) (fun h2 => ?_) (fun h2 => ?_)
    · skip
      refine hz_iconst (pc := 34) (v := (-1)) (hz_dec kX11_post 19 rfl) (by decide) ?_
      exact hz_iret (pc := 35) (hz_dec kX11_post 20 rfl) rfl (hcP.no hR _)
    · skip
      refine hz_iloadn (pc := 28) 3 (hz_dec kX11_post 16 rfl) rfl ?_
      refine hz_bipush (pc := 29) (v := nI 6) (hz_dec kX11_post 17 rfl) (by decide) ?_
      refine hz_icmp_le (pc := 31) (tgt := 36) (hz_dec kX11_post 18 rfl) (by decide) (fun h3 => ?_) (fun h3 => ?_)
      · skip
        exact absurd h3 ((h.resolve_left h1).resolve_left h2)
      · skip
        refine hz_iconst (pc := 34) (v := (-1)) (hz_dec kX11_post 19 rfl) (by decide) ?_
        exact hz_iret (pc := 35) (hz_dec kX11_post 20 rfl) rfl (hcP.no hR _)
  · skip
    refine hz_iconst (pc := 21) (v := (-1)) (hz_dec kX11_post 11 rfl) (by decide) ?_
    exact hz_iret (pc := 22) (hz_dec kX11_post 12 rfl) rfl (hcP.no hR _)
set_option maxHeartbeats 4000000 in
set_option maxRecDepth 100000 in
theorem c_rlink {κ : hz_C} {z B : Nat} {M : hz_M} {H : ho_H} (hnn : (hoN H).length ≤ 6) (hT4 : (hoT H).length ≤ 4000) (hR : hmR M z B H) {a b d : Nat} (ha : a < (hoN H).length) (hb : b < (hoN H).length) (hab : ¬ a = b) (hd : d ≤ 9) : hz_Mt κ xX12_link 1 0 0 [.ref B, .int (nI a), .int (nI b), .int (nI d)] z M (hmP M z B (.int (nI (hoD H (6 * a + b)))) (hol H (dlS (hoD H) a b d))) := by
  refine hz_ent (lo := [(0, .ref B), (1, .int (nI a)), (2, .int (nI b)), (3, .int (nI d))]) (by decide) (Nat.le_of_ble_eq_true rfl) rfl ?_
  obtain ⟨hk0_, hE0, ⟨m1, m2, m3⟩, hNd, a5, a6, a7, a8⟩ := id hR
  obtain ⟨⟨fs, hO, hF⟩, -, -, h8, hz⟩ := id hk0_
  obtain ⟨x1, x3, x4, x5, x6, x7, x8⟩ := id m3
  refine hz_aloadn (pc := 0) 0 (hz_dec kX12_link 0 rfl) rfl ?_
  refine hz_iconst (pc := 1) (v := nI 0) (hz_dec kX12_link 1 rfl) (by decide) ?_
  refine hz_puti (pc := 2) (hz_dec kX12_link 2 rfl) fo_X12_302 ft_X12_0 hO h8 (by omega) (by rw [hF.1]; decide) ?_
  have hf1 : mfr B [0, 89] [] M (va_up M B (.inr (12, (List.set fs 0 (.int (nI 0)))))) := (mfr.rf ⟨fs, hO, hF⟩).upO (k := 0) hO hF rfl rfl
  have hR1 : hmR (va_up M B (.inr (12, (List.set fs 0 (.int (nI 0)))))) z B H := hR.m0 hf1 hE0.upO ((fdB_of (va_up_self _ _ _) 89).trans ((List.getElem?_set_ne (by decide)).trans ((fdB_of hO 89).symm.trans x8)))
  generalize (va_up M B (.inr (12, (List.set fs 0 (.int (nI 0)))))) = M1 at *
  obtain ⟨hk1, hE1, ⟨n1, d1, q1⟩, hNd1, a51, a61, a71, a81⟩ := id hR1
  obtain ⟨⟨fs1, hO1, hF1⟩, -, -, -, -⟩ := id hk1
  refine hz_aloadn (pc := 5) 0 (hz_dec kX12_link 3 rfl) rfl ?_
  refine hz_iloadn (pc := 6) 1 (hz_dec kX12_link 4 rfl) rfl ?_
  refine hz_xV (pc := 7) (a := B) (As := [.int (nI a)]) (st := []) (hz_dec kX12_link 5 rfl) co_X12_692 im_X12_stateOf se_X12_stateOf rfl hO1 h8 (by omega) (c_st hnn hR1 ha) rfl (by decide) ⟨Nat.le_refl _, Nat.le_refl _⟩ (Nat.le_of_ble_eq_true rfl) rfl ?_
  refine hz_iconst (pc := 10) (v := (-1)) (hz_dec kX12_link 6 rfl) (by decide) ?_
  refine hz_icmp_eq (pc := 11) (tgt := 38) (hz_dec kX12_link 7 rfl) (by decide) (fun h0 => ?_) (fun h0 => ?_)
  · skip
    exact absurd h0 (stI_b _)
  · skip
    refine hz_aloadn (pc := 14) 0 (hz_dec kX12_link 8 rfl) rfl ?_
    refine hz_iloadn (pc := 15) 2 (hz_dec kX12_link 9 rfl) rfl ?_
    refine hz_xV (pc := 16) (a := B) (As := [.int (nI b)]) (st := []) (hz_dec kX12_link 10 rfl) co_X12_692 im_X12_stateOf se_X12_stateOf rfl hO1 h8 (by omega) (c_st hnn hR1 hb) rfl (by decide) ⟨Nat.le_refl _, Nat.le_refl _⟩ (Nat.le_of_ble_eq_true rfl) rfl ?_
    refine hz_iconst (pc := 19) (v := (-1)) (hz_dec kX12_link 11 rfl) (by decide) ?_
    refine hz_icmp_eq (pc := 20) (tgt := 38) (hz_dec kX12_link 12 rfl) (by decide) (fun h1 => ?_) (fun h1 => ?_)
    · skip
      exact absurd h1 (stI_b _)
    · skip
      refine hz_iloadn (pc := 23) 1 (hz_dec kX12_link 13 rfl) rfl ?_
      refine hz_iloadn (pc := 24) 2 (hz_dec kX12_link 14 rfl) rfl ?_
      refine hz_n_eq (pc := 25) (tgt := 38) (hz_dec kX12_link 15 rfl) (by decide) (by omega) (by omega) (fun h2 => ?_) (fun h2 => ?_)
      · skip
        exact absurd h2 hab
      · skip
        refine hz_iloadn (pc := 28) 3 (hz_dec kX12_link 16 rfl) rfl ?_
        refine hz_z_lt (pc := 29) (tgt := 38) (hz_dec kX12_link 17 rfl) (by decide) (by omega) ?_
        refine hz_iloadn (pc := 32) 3 (hz_dec kX12_link 18 rfl) rfl ?_
        refine hz_bipush (pc := 33) (v := nI 9) (hz_dec kX12_link 19 rfl) (by decide) ?_
        refine hz_n_le (pc := 35) (tgt := 40) (hz_dec kX12_link 20 rfl) (by decide) (by omega) (by omega) (fun h4 => ?_) (fun h4 => ?_)
        · skip
          refine hz_aloadn (pc := 40) 0 (hz_dec kX12_link 23 rfl) rfl ?_
          refine hz_get (pc := 41) (v := .ref (B + 69)) (hz_dec kX12_link 24 rfl) fo_X12_227 hO1 h8 (by omega) (hF1.2 78 (by decide) (by decide)) ?_
          refine hz_bipush (pc := 44) (v := nI 6) (hz_dec kX12_link 25 rfl) (by decide) ?_
          refine hz_iloadn (pc := 46) 1 (hz_dec kX12_link 26 rfl) rfl ?_
          refine hz_mulN (pc := 47) (hz_dec kX12_link 27 rfl) ?_
          refine hz_iloadn (pc := 48) 2 (hz_dec kX12_link 28 rfl) rfl ?_
          refine hz_addN (pc := 49) (hz_dec kX12_link 29 rfl) ?_
          refine hz_iald (pc := 50) (j := (6 * a) + b) (hz_dec kX12_link 30 rfl) hE1.a69 (by omega) (by omega) rfl (by omega) (by decide) ?_
          refine hz_eqi (pc := 51) (d1 (6 * a + b) (by omega)).1 ?_
          refine hz_istore (pc := 51) (i := 4) (lo2 := [(4, .int (nI (hoD H (6 * a + b)))), (0, .ref B), (1, .int (nI a)), (2, .int (nI b)), (3, .int (nI d))]) (hz_dec kX12_link 31 rfl) (by decide) rfl ?_
          refine hz_aloadn (pc := 53) 1 (hz_dec kX12_link 32 rfl) rfl ?_
          refine hz_get (pc := 54) (v := .ref (B + 69)) (hz_dec kX12_link 33 rfl) fo_X12_227 hO1 h8 (by omega) (hF1.2 78 (by decide) (by decide)) ?_
          refine hz_bipush (pc := 57) (v := nI 6) (hz_dec kX12_link 34 rfl) (by decide) ?_
          refine hz_iloadn (pc := 59) 2 (hz_dec kX12_link 35 rfl) rfl ?_
          refine hz_mulN (pc := 60) (hz_dec kX12_link 36 rfl) ?_
          refine hz_iloadn (pc := 61) 3 (hz_dec kX12_link 37 rfl) rfl ?_
          refine hz_addN (pc := 62) (hz_dec kX12_link 38 rfl) ?_
          refine hz_iloadn (pc := 63) 4 (hz_dec kX12_link 39 rfl) rfl ?_
          refine hz_iast (pc := 64) (j := (6 * a) + b) (hz_dec kX12_link 40 rfl) hE1.a69 (by omega) (by omega) rfl (by omega) (by decide) ?_
          refine hz_aloadn (pc := 65) 1 (hz_dec kX12_link 41 rfl) rfl ?_
          refine hz_get (pc := 66) (v := .ref (B + 69)) (hz_dec kX12_link 42 rfl) fo_X12_227 (hz_mne hO1 (by omega)) h8 (by omega) (hF1.2 78 (by decide) (by decide)) ?_
          refine hz_bipush (pc := 69) (v := nI 6) (hz_dec kX12_link 43 rfl) (by decide) ?_
          refine hz_iloadn (pc := 71) 3 (hz_dec kX12_link 44 rfl) rfl ?_
          refine hz_mulN (pc := 72) (hz_dec kX12_link 45 rfl) ?_
          refine hz_iloadn (pc := 73) 2 (hz_dec kX12_link 46 rfl) rfl ?_
          refine hz_addN (pc := 74) (hz_dec kX12_link 47 rfl) ?_
          refine hz_iloadn (pc := 75) 4 (hz_dec kX12_link 48 rfl) rfl ?_
          refine hz_iast (pc := 76) (j := (6 * b) + a) (hz_dec kX12_link 49 rfl) (va_up_self _ _ _) (by omega) (by omega) rfl (by omega) (by decide) ?_
          refine hz_iload (pc := 77) 0 (hz_dec kX12_link 50 rfl) rfl ?_
          have hf2 : mfr B [] [69] M1 (va_up (va_up M1 (B + 69) (.inl (0, 36, .inl (upd (fA M1 B 69) ((6 * a) + b) ((nI (d))))))) (B + 69) (.inl (0, 36, .inl (upd (upd (fA M1 B 69) ((6 * a) + b) ((nI (d)))) ((6 * b) + a) ((nI (d))))))) := (((mfr.rf (ks := []) (os := [69]) hk1.1).upA (o := 69) rfl (by decide)).upA (o := 69) rfl (by decide))
          have hE2 : mdE (va_up (va_up M1 (B + 69) (.inl (0, 36, .inl (upd (fA M1 B 69) ((6 * a) + b) ((nI (d))))))) (B + 69) (.inl (0, 36, .inl (upd (upd (fA M1 B 69) ((6 * a) + b) ((nI (d)))) ((6 * b) + a) ((nI (d))))))) B := ((hE1.upA (k := 69) (t := 0) (n := 36) (by decide)).upA (k := 69) (t := 0) (n := 36) (by decide))
          have e69 : fA (va_up (va_up M1 (B + 69) (.inl (0, 36, .inl (upd (fA M1 B 69) ((6 * a) + b) ((nI (d))))))) (B + 69) (.inl (0, 36, .inl (upd (upd (fA M1 B 69) ((6 * a) + b) ((nI (d)))) ((6 * b) + a) ((nI (d))))))) B 69 = upd (upd (fA M1 B 69) (6 * a + b) (nI d)) (6 * b + a) (nI d) := fA_of (va_up_self _ _ _)
          have hR2 : hmR (va_up (va_up M1 (B + 69) (.inl (0, 36, .inl (upd (fA M1 B 69) ((6 * a) + b) ((nI (d))))))) (B + 69) (.inl (0, 36, .inl (upd (upd (fA M1 B 69) ((6 * a) + b) ((nI (d)))) ((6 * b) + a) ((nI (d))))))) z B (hol H (dlS (hoD H) a b d)) := hR1.l hf2 hE2 (fun k hk => by rw [e69]; exact dlS_m d1 hd k hk)
          exact hz_iret (pc := 79) (hz_dec kX12_link 51 rfl) rfl ⟨rfl, rfl, (hf1.S rfl).tr (hf2.S rfl), hR2⟩
        · skip
          exact absurd hd (by omega)
set_option maxHeartbeats 4000000 in
set_option maxRecDepth 100000 in
theorem c_rlinkB1 {κ : hz_C} {z B : Nat} {M : hz_M} {H : ho_H} (hnn : (hoN H).length ≤ 6) (hT4 : (hoT H).length ≤ 4000) (hR : hmR M z B H) {a b d : Int32} (ha : a < 0 ∨ ¬ a < nI (hoN H).length) : hz_Mt κ xX12_link 1 0 0 [.ref B, .int a, .int b, .int d] z M (hmP M z B (.int (-1)) H) := by
  refine hz_ent (lo := [(0, .ref B), (1, .int a), (2, .int b), (3, .int d)]) (by decide) (Nat.le_of_ble_eq_true rfl) rfl ?_
  obtain ⟨hk0_, hE0, ⟨m1, m2, m3⟩, hNd, a5, a6, a7, a8⟩ := id hR
  obtain ⟨⟨fs, hO, hF⟩, -, -, h8, hz⟩ := id hk0_
  obtain ⟨x1, x3, x4, x5, x6, x7, x8⟩ := id m3
  refine hz_aloadn (pc := 0) 0 (hz_dec kX12_link 0 rfl) rfl ?_
  refine hz_iconst (pc := 1) (v := nI 0) (hz_dec kX12_link 1 rfl) (by decide) ?_
  refine hz_puti (pc := 2) (hz_dec kX12_link 2 rfl) fo_X12_302 ft_X12_0 hO h8 (by omega) (by rw [hF.1]; decide) ?_
  have hf1 : mfr B [0, 89] [] M (va_up M B (.inr (12, (List.set fs 0 (.int (nI 0)))))) := (mfr.rf ⟨fs, hO, hF⟩).upO (k := 0) hO hF rfl rfl
  have hR1 : hmR (va_up M B (.inr (12, (List.set fs 0 (.int (nI 0)))))) z B H := hR.m0 hf1 hE0.upO ((fdB_of (va_up_self _ _ _) 89).trans ((List.getElem?_set_ne (by decide)).trans ((fdB_of hO 89).symm.trans x8)))
  generalize (va_up M B (.inr (12, (List.set fs 0 (.int (nI 0)))))) = M1 at *
  obtain ⟨hk1, hE1, ⟨n1, d1, q1⟩, hNd1, a51, a61, a71, a81⟩ := id hR1
  obtain ⟨⟨fs1, hO1, hF1⟩, -, -, -, -⟩ := id hk1
  refine hz_aloadn (pc := 5) 0 (hz_dec kX12_link 3 rfl) rfl ?_
  refine hz_iloadn (pc := 6) 1 (hz_dec kX12_link 4 rfl) rfl ?_
  refine hz_xV (pc := 7) (a := B) (As := [.int a]) (st := []) (hz_dec kX12_link 5 rfl) co_X12_692 im_X12_stateOf se_X12_stateOf rfl hO1 h8 (by omega) (c_stN hnn hR1 ha) rfl (by decide) ⟨Nat.le_refl _, Nat.le_refl _⟩ (Nat.le_of_ble_eq_true rfl) rfl ?_
  refine hz_iconst (pc := 10) (v := (-1)) (hz_dec kX12_link 6 rfl) (by decide) ?_
  refine hz_icmp_eq (pc := 11) (tgt := 38) (hz_dec kX12_link 7 rfl) (by decide) (fun h0 => ?_) (fun h0 => ?_)
  · skip
    refine hz_iconst (pc := 38) (v := (-1)) (hz_dec kX12_link 21 rfl) (by decide) ?_
    exact hz_iret (pc := 39) (hz_dec kX12_link 22 rfl) rfl ⟨rfl, rfl, hf1.S rfl, hR1⟩
  · skip
    exact absurd rfl h0
set_option maxHeartbeats 4000000 in
set_option maxRecDepth 100000 in
theorem c_rlinkB2 {κ : hz_C} {z B : Nat} {M : hz_M} {H : ho_H} (hnn : (hoN H).length ≤ 6) (hT4 : (hoT H).length ≤ 4000) (hR : hmR M z B H) {a : Nat} {b d : Int32} (ha : a < (hoN H).length) (hb : b < 0 ∨ ¬ b < nI (hoN H).length) : hz_Mt κ xX12_link 1 0 0 [.ref B, .int (nI a), .int b, .int d] z M (hmP M z B (.int (-1)) H) := by
  refine hz_ent (lo := [(0, .ref B), (1, .int (nI a)), (2, .int b), (3, .int d)]) (by decide) (Nat.le_of_ble_eq_true rfl) rfl ?_
  obtain ⟨hk0_, hE0, ⟨m1, m2, m3⟩, hNd, a5, a6, a7, a8⟩ := id hR
  obtain ⟨⟨fs, hO, hF⟩, -, -, h8, hz⟩ := id hk0_
  obtain ⟨x1, x3, x4, x5, x6, x7, x8⟩ := id m3
  refine hz_aloadn (pc := 0) 0 (hz_dec kX12_link 0 rfl) rfl ?_
  refine hz_iconst (pc := 1) (v := nI 0) (hz_dec kX12_link 1 rfl) (by decide) ?_
  refine hz_puti (pc := 2) (hz_dec kX12_link 2 rfl) fo_X12_302 ft_X12_0 hO h8 (by omega) (by rw [hF.1]; decide) ?_
  have hf1 : mfr B [0, 89] [] M (va_up M B (.inr (12, (List.set fs 0 (.int (nI 0)))))) := (mfr.rf ⟨fs, hO, hF⟩).upO (k := 0) hO hF rfl rfl
  have hR1 : hmR (va_up M B (.inr (12, (List.set fs 0 (.int (nI 0)))))) z B H := hR.m0 hf1 hE0.upO ((fdB_of (va_up_self _ _ _) 89).trans ((List.getElem?_set_ne (by decide)).trans ((fdB_of hO 89).symm.trans x8)))
  generalize (va_up M B (.inr (12, (List.set fs 0 (.int (nI 0)))))) = M1 at *
  obtain ⟨hk1, hE1, ⟨n1, d1, q1⟩, hNd1, a51, a61, a71, a81⟩ := id hR1
  obtain ⟨⟨fs1, hO1, hF1⟩, -, -, -, -⟩ := id hk1
  refine hz_aloadn (pc := 5) 0 (hz_dec kX12_link 3 rfl) rfl ?_
  refine hz_iloadn (pc := 6) 1 (hz_dec kX12_link 4 rfl) rfl ?_
  refine hz_xV (pc := 7) (a := B) (As := [.int (nI a)]) (st := []) (hz_dec kX12_link 5 rfl) co_X12_692 im_X12_stateOf se_X12_stateOf rfl hO1 h8 (by omega) (c_st hnn hR1 ha) rfl (by decide) ⟨Nat.le_refl _, Nat.le_refl _⟩ (Nat.le_of_ble_eq_true rfl) rfl ?_
  refine hz_iconst (pc := 10) (v := (-1)) (hz_dec kX12_link 6 rfl) (by decide) ?_
  refine hz_icmp_eq (pc := 11) (tgt := 38) (hz_dec kX12_link 7 rfl) (by decide) (fun h9 => ?_) (fun h9 => ?_)
  · skip
    exact absurd h9 (stI_b _)
  · skip
    refine hz_aloadn (pc := 14) 0 (hz_dec kX12_link 8 rfl) rfl ?_
    refine hz_iloadn (pc := 15) 2 (hz_dec kX12_link 9 rfl) rfl ?_
    refine hz_xV (pc := 16) (a := B) (As := [.int b]) (st := []) (hz_dec kX12_link 10 rfl) co_X12_692 im_X12_stateOf se_X12_stateOf rfl hO1 h8 (by omega) (c_stN hnn hR1 hb) rfl (by decide) ⟨Nat.le_refl _, Nat.le_refl _⟩ (Nat.le_of_ble_eq_true rfl) rfl ?_
    refine hz_iconst (pc := 19) (v := (-1)) (hz_dec kX12_link 11 rfl) (by decide) ?_
    refine hz_icmp_eq (pc := 20) (tgt := 38) (hz_dec kX12_link 12 rfl) (by decide) (fun h0 => ?_) (fun h0 => ?_)
    · skip
      refine hz_iconst (pc := 38) (v := (-1)) (hz_dec kX12_link 21 rfl) (by decide) ?_
      exact hz_iret (pc := 39) (hz_dec kX12_link 22 rfl) rfl ⟨rfl, rfl, hf1.S rfl, hR1⟩
    · skip
      exact absurd rfl h0
set_option maxHeartbeats 4000000 in
set_option maxRecDepth 100000 in
theorem c_rlinkB3 {κ : hz_C} {z B : Nat} {M : hz_M} {H : ho_H} (hnn : (hoN H).length ≤ 6) (hT4 : (hoT H).length ≤ 4000) (hR : hmR M z B H) {a b : Nat} {d : Int32} (ha : a < (hoN H).length) (hb : b < (hoN H).length) (h : a = b ∨ d < 0 ∨ ¬ d ≤ nI 9) : hz_Mt κ xX12_link 1 0 0 [.ref B, .int (nI a), .int (nI b), .int d] z M (hmP M z B (.int (-1)) H) := by
  refine hz_ent (lo := [(0, .ref B), (1, .int (nI a)), (2, .int (nI b)), (3, .int d)]) (by decide) (Nat.le_of_ble_eq_true rfl) rfl ?_
  obtain ⟨hk0_, hE0, ⟨m1, m2, m3⟩, hNd, a5, a6, a7, a8⟩ := id hR
  obtain ⟨⟨fs, hO, hF⟩, -, -, h8, hz⟩ := id hk0_
  obtain ⟨x1, x3, x4, x5, x6, x7, x8⟩ := id m3
  refine hz_aloadn (pc := 0) 0 (hz_dec kX12_link 0 rfl) rfl ?_
  refine hz_iconst (pc := 1) (v := nI 0) (hz_dec kX12_link 1 rfl) (by decide) ?_
  refine hz_puti (pc := 2) (hz_dec kX12_link 2 rfl) fo_X12_302 ft_X12_0 hO h8 (by omega) (by rw [hF.1]; decide) ?_
  have hf1 : mfr B [0, 89] [] M (va_up M B (.inr (12, (List.set fs 0 (.int (nI 0)))))) := (mfr.rf ⟨fs, hO, hF⟩).upO (k := 0) hO hF rfl rfl
  have hR1 : hmR (va_up M B (.inr (12, (List.set fs 0 (.int (nI 0)))))) z B H := hR.m0 hf1 hE0.upO ((fdB_of (va_up_self _ _ _) 89).trans ((List.getElem?_set_ne (by decide)).trans ((fdB_of hO 89).symm.trans x8)))
  generalize (va_up M B (.inr (12, (List.set fs 0 (.int (nI 0)))))) = M1 at *
  obtain ⟨hk1, hE1, ⟨n1, d1, q1⟩, hNd1, a51, a61, a71, a81⟩ := id hR1
  obtain ⟨⟨fs1, hO1, hF1⟩, -, -, -, -⟩ := id hk1
  refine hz_aloadn (pc := 5) 0 (hz_dec kX12_link 3 rfl) rfl ?_
  refine hz_iloadn (pc := 6) 1 (hz_dec kX12_link 4 rfl) rfl ?_
  refine hz_xV (pc := 7) (a := B) (As := [.int (nI a)]) (st := []) (hz_dec kX12_link 5 rfl) co_X12_692 im_X12_stateOf se_X12_stateOf rfl hO1 h8 (by omega) (c_st hnn hR1 ha) rfl (by decide) ⟨Nat.le_refl _, Nat.le_refl _⟩ (Nat.le_of_ble_eq_true rfl) rfl ?_
  refine hz_iconst (pc := 10) (v := (-1)) (hz_dec kX12_link 6 rfl) (by decide) ?_
  refine hz_icmp_eq (pc := 11) (tgt := 38) (hz_dec kX12_link 7 rfl) (by decide) (fun h9 => ?_) (fun h9 => ?_)
  · skip
    exact absurd h9 (stI_b _)
  · skip
    refine hz_aloadn (pc := 14) 0 (hz_dec kX12_link 8 rfl) rfl ?_
    refine hz_iloadn (pc := 15) 2 (hz_dec kX12_link 9 rfl) rfl ?_
    refine hz_xV (pc := 16) (a := B) (As := [.int (nI b)]) (st := []) (hz_dec kX12_link 10 rfl) co_X12_692 im_X12_stateOf se_X12_stateOf rfl hO1 h8 (by omega) (c_st hnn hR1 hb) rfl (by decide) ⟨Nat.le_refl _, Nat.le_refl _⟩ (Nat.le_of_ble_eq_true rfl) rfl ?_
    refine hz_iconst (pc := 19) (v := (-1)) (hz_dec kX12_link 11 rfl) (by decide) ?_
    refine hz_icmp_eq (pc := 20) (tgt := 38) (hz_dec kX12_link 12 rfl) (by decide) (fun h8_ => ?_) (fun h8_ => ?_)
    · skip
      exact absurd h8_ (stI_b _)
    · skip
      refine hz_iloadn (pc := 23) 1 (hz_dec kX12_link 13 rfl) rfl ?_
      refine hz_iloadn (pc := 24) 2 (hz_dec kX12_link 14 rfl) rfl ?_
      refine hz_n_eq (pc := 25) (tgt := 38) (hz_dec kX12_link 15 rfl) (by decide) (by omega) (by omega) (fun h1 => ?_) (fun h1 => ?_)
      · skip
        refine hz_iconst (pc := 38) (v := (-1)) (hz_dec kX12_link 21 rfl) (by decide) ?_
        exact hz_iret (pc := 39) (hz_dec kX12_link 22 rfl) rfl ⟨rfl, rfl, hf1.S rfl, hR1⟩
      · skip
        refine hz_iloadn (pc := 28) 3 (hz_dec kX12_link 16 rfl) rfl ?_
        refine hz_if_lt (pc := 29) (tgt := 38) (hz_dec kX12_link 17 rfl) (by decide) (fun h2 => ?_) (fun h2 => ?_)
        · skip
          refine hz_iconst (pc := 38) (v := (-1)) (hz_dec kX12_link 21 rfl) (by decide) ?_
          exact hz_iret (pc := 39) (hz_dec kX12_link 22 rfl) rfl ⟨rfl, rfl, hf1.S rfl, hR1⟩
        · skip
          refine hz_iloadn (pc := 32) 3 (hz_dec kX12_link 18 rfl) rfl ?_
          refine hz_bipush (pc := 33) (v := nI 9) (hz_dec kX12_link 19 rfl) (by decide) ?_
          refine hz_icmp_le (pc := 35) (tgt := 40) (hz_dec kX12_link 20 rfl) (by decide) (fun h3 => ?_) (fun h3 => ?_)
          · skip
            exact absurd h3 ((h.resolve_left h1).resolve_left h2)
          · skip
            refine hz_iconst (pc := 38) (v := (-1)) (hz_dec kX12_link 21 rfl) (by decide) ?_
            exact hz_iret (pc := 39) (hz_dec kX12_link 22 rfl) rfl ⟨rfl, rfl, hf1.S rfl, hR1⟩
set_option maxHeartbeats 4000000 in
set_option maxRecDepth 100000 in
theorem c_rpostB1 {κ : hz_C} {z B : Nat} {M : hz_M} {H : ho_H} (hnn : (hoN H).length ≤ 6) (hT4 : (hoT H).length ≤ 4000) (hR : hmR M z B H) {a b d : Int32} (ha : a < 0 ∨ ¬ a < nI (hoN H).length) : hz_Mt κ xX12_post 1 0 0 [.ref B, .int a, .int b, .int d] z M (hmP M z B (.int (-1)) H) := by
  refine hz_ent (lo := [(0, .ref B), (1, .int a), (2, .int b), (3, .int d)]) (by decide) (Nat.le_of_ble_eq_true rfl) rfl ?_
  obtain ⟨hk0_, hE0, ⟨m1, m2, m3⟩, hNd, a5, a6, a7, a8⟩ := id hR
  obtain ⟨⟨fs, hO, hF⟩, -, -, h8, hz⟩ := id hk0_
  obtain ⟨x1, x3, x4, x5, x6, x7, x8⟩ := id m3
  refine hz_aloadn (pc := 0) 0 (hz_dec kX12_post 0 rfl) rfl ?_
  refine hz_iconst (pc := 1) (v := nI 0) (hz_dec kX12_post 1 rfl) (by decide) ?_
  refine hz_puti (pc := 2) (hz_dec kX12_post 2 rfl) fo_X12_302 ft_X12_0 hO h8 (by omega) (by rw [hF.1]; decide) ?_
  have hf1 : mfr B [0, 89] [] M (va_up M B (.inr (12, (List.set fs 0 (.int (nI 0)))))) := (mfr.rf ⟨fs, hO, hF⟩).upO (k := 0) hO hF rfl rfl
  have hR1 : hmR (va_up M B (.inr (12, (List.set fs 0 (.int (nI 0)))))) z B H := hR.m0 hf1 hE0.upO ((fdB_of (va_up_self _ _ _) 89).trans ((List.getElem?_set_ne (by decide)).trans ((fdB_of hO 89).symm.trans x8)))
  generalize (va_up M B (.inr (12, (List.set fs 0 (.int (nI 0)))))) = M1 at *
  obtain ⟨hk1, hE1, ⟨n1, d1, q1⟩, hNd1, a51, a61, a71, a81⟩ := id hR1
  obtain ⟨⟨fs1, hO1, hF1⟩, -, -, -, -⟩ := id hk1
  refine hz_aloadn (pc := 5) 0 (hz_dec kX12_post 3 rfl) rfl ?_
  refine hz_iloadn (pc := 6) 1 (hz_dec kX12_post 4 rfl) rfl ?_
  refine hz_xV (pc := 7) (a := B) (As := [.int a]) (st := []) (hz_dec kX12_post 5 rfl) co_X12_692 im_X12_stateOf se_X12_stateOf rfl hO1 h8 (by omega) (c_stN hnn hR1 ha) rfl (by decide) ⟨Nat.le_refl _, Nat.le_refl _⟩ (Nat.le_of_ble_eq_true rfl) rfl ?_
  refine hz_iconst (pc := 10) (v := (-1)) (hz_dec kX12_post 6 rfl) (by decide) ?_
  refine hz_icmp_eq (pc := 11) (tgt := 39) (hz_dec kX12_post 7 rfl) (by decide) (fun h0 => ?_) (fun h0 => ?_)
  · skip
    refine hz_iconst (pc := 39) (v := (-1)) (hz_dec kX12_post 22 rfl) (by decide) ?_
    exact hz_iret (pc := 40) (hz_dec kX12_post 23 rfl) rfl ⟨rfl, rfl, hf1.S rfl, hR1⟩
  · skip
    exact absurd rfl h0
set_option maxHeartbeats 4000000 in
set_option maxRecDepth 100000 in
theorem c_rpostB2 {κ : hz_C} {z B : Nat} {M : hz_M} {H : ho_H} (hnn : (hoN H).length ≤ 6) (hT4 : (hoT H).length ≤ 4000) (hR : hmR M z B H) {a : Nat} {b d : Int32} (ha : a < (hoN H).length) (hb : b < 0 ∨ ¬ b < nI (hoN H).length) : hz_Mt κ xX12_post 1 0 0 [.ref B, .int (nI a), .int b, .int d] z M (hmP M z B (.int (-1)) H) := by
  refine hz_ent (lo := [(0, .ref B), (1, .int (nI a)), (2, .int b), (3, .int d)]) (by decide) (Nat.le_of_ble_eq_true rfl) rfl ?_
  obtain ⟨hk0_, hE0, ⟨m1, m2, m3⟩, hNd, a5, a6, a7, a8⟩ := id hR
  obtain ⟨⟨fs, hO, hF⟩, -, -, h8, hz⟩ := id hk0_
  obtain ⟨x1, x3, x4, x5, x6, x7, x8⟩ := id m3
  refine hz_aloadn (pc := 0) 0 (hz_dec kX12_post 0 rfl) rfl ?_
  refine hz_iconst (pc := 1) (v := nI 0) (hz_dec kX12_post 1 rfl) (by decide) ?_
  refine hz_puti (pc := 2) (hz_dec kX12_post 2 rfl) fo_X12_302 ft_X12_0 hO h8 (by omega) (by rw [hF.1]; decide) ?_
  have hf1 : mfr B [0, 89] [] M (va_up M B (.inr (12, (List.set fs 0 (.int (nI 0)))))) := (mfr.rf ⟨fs, hO, hF⟩).upO (k := 0) hO hF rfl rfl
  have hR1 : hmR (va_up M B (.inr (12, (List.set fs 0 (.int (nI 0)))))) z B H := hR.m0 hf1 hE0.upO ((fdB_of (va_up_self _ _ _) 89).trans ((List.getElem?_set_ne (by decide)).trans ((fdB_of hO 89).symm.trans x8)))
  generalize (va_up M B (.inr (12, (List.set fs 0 (.int (nI 0)))))) = M1 at *
  obtain ⟨hk1, hE1, ⟨n1, d1, q1⟩, hNd1, a51, a61, a71, a81⟩ := id hR1
  obtain ⟨⟨fs1, hO1, hF1⟩, -, -, -, -⟩ := id hk1
  refine hz_aloadn (pc := 5) 0 (hz_dec kX12_post 3 rfl) rfl ?_
  refine hz_iloadn (pc := 6) 1 (hz_dec kX12_post 4 rfl) rfl ?_
  refine hz_xV (pc := 7) (a := B) (As := [.int (nI a)]) (st := []) (hz_dec kX12_post 5 rfl) co_X12_692 im_X12_stateOf se_X12_stateOf rfl hO1 h8 (by omega) (c_st hnn hR1 ha) rfl (by decide) ⟨Nat.le_refl _, Nat.le_refl _⟩ (Nat.le_of_ble_eq_true rfl) rfl ?_
  refine hz_iconst (pc := 10) (v := (-1)) (hz_dec kX12_post 6 rfl) (by decide) ?_
  refine hz_icmp_eq (pc := 11) (tgt := 39) (hz_dec kX12_post 7 rfl) (by decide) (fun h9 => ?_) (fun h9 => ?_)
  · skip
    exact absurd h9 (stI_b _)
  · skip
    refine hz_aloadn (pc := 14) 0 (hz_dec kX12_post 8 rfl) rfl ?_
    refine hz_iloadn (pc := 15) 2 (hz_dec kX12_post 9 rfl) rfl ?_
    refine hz_xV (pc := 16) (a := B) (As := [.int b]) (st := []) (hz_dec kX12_post 10 rfl) co_X12_692 im_X12_stateOf se_X12_stateOf rfl hO1 h8 (by omega) (c_stN hnn hR1 hb) rfl (by decide) ⟨Nat.le_refl _, Nat.le_refl _⟩ (Nat.le_of_ble_eq_true rfl) rfl ?_
    refine hz_iconst (pc := 19) (v := (-1)) (hz_dec kX12_post 11 rfl) (by decide) ?_
    refine hz_icmp_eq (pc := 20) (tgt := 39) (hz_dec kX12_post 12 rfl) (by decide) (fun h0 => ?_) (fun h0 => ?_)
    · skip
      refine hz_iconst (pc := 39) (v := (-1)) (hz_dec kX12_post 22 rfl) (by decide) ?_
      exact hz_iret (pc := 40) (hz_dec kX12_post 23 rfl) rfl ⟨rfl, rfl, hf1.S rfl, hR1⟩
    · skip
      exact absurd rfl h0
set_option maxHeartbeats 4000000 in
set_option maxRecDepth 100000 in
theorem c_rpostB3 {κ : hz_C} {z B : Nat} {M : hz_M} {H : ho_H} (hnn : (hoN H).length ≤ 6) (hT4 : (hoT H).length ≤ 4000) (hR : hmR M z B H) {a b : Nat} {d : Int32} (ha : a < (hoN H).length) (hb : b < (hoN H).length) (h : a = b ∨ d < nI 1 ∨ ¬ d ≤ nI 6) : hz_Mt κ xX12_post 1 0 0 [.ref B, .int (nI a), .int (nI b), .int d] z M (hmP M z B (.int (-1)) H) := by
  refine hz_ent (lo := [(0, .ref B), (1, .int (nI a)), (2, .int (nI b)), (3, .int d)]) (by decide) (Nat.le_of_ble_eq_true rfl) rfl ?_
  obtain ⟨hk0_, hE0, ⟨m1, m2, m3⟩, hNd, a5, a6, a7, a8⟩ := id hR
  obtain ⟨⟨fs, hO, hF⟩, -, -, h8, hz⟩ := id hk0_
  obtain ⟨x1, x3, x4, x5, x6, x7, x8⟩ := id m3
  refine hz_aloadn (pc := 0) 0 (hz_dec kX12_post 0 rfl) rfl ?_
  refine hz_iconst (pc := 1) (v := nI 0) (hz_dec kX12_post 1 rfl) (by decide) ?_
  refine hz_puti (pc := 2) (hz_dec kX12_post 2 rfl) fo_X12_302 ft_X12_0 hO h8 (by omega) (by rw [hF.1]; decide) ?_
  have hf1 : mfr B [0, 89] [] M (va_up M B (.inr (12, (List.set fs 0 (.int (nI 0)))))) := (mfr.rf ⟨fs, hO, hF⟩).upO (k := 0) hO hF rfl rfl
  have hR1 : hmR (va_up M B (.inr (12, (List.set fs 0 (.int (nI 0)))))) z B H := hR.m0 hf1 hE0.upO ((fdB_of (va_up_self _ _ _) 89).trans ((List.getElem?_set_ne (by decide)).trans ((fdB_of hO 89).symm.trans x8)))
  generalize (va_up M B (.inr (12, (List.set fs 0 (.int (nI 0)))))) = M1 at *
  obtain ⟨hk1, hE1, ⟨n1, d1, q1⟩, hNd1, a51, a61, a71, a81⟩ := id hR1
  obtain ⟨⟨fs1, hO1, hF1⟩, -, -, -, -⟩ := id hk1
  refine hz_aloadn (pc := 5) 0 (hz_dec kX12_post 3 rfl) rfl ?_
  refine hz_iloadn (pc := 6) 1 (hz_dec kX12_post 4 rfl) rfl ?_
  refine hz_xV (pc := 7) (a := B) (As := [.int (nI a)]) (st := []) (hz_dec kX12_post 5 rfl) co_X12_692 im_X12_stateOf se_X12_stateOf rfl hO1 h8 (by omega) (c_st hnn hR1 ha) rfl (by decide) ⟨Nat.le_refl _, Nat.le_refl _⟩ (Nat.le_of_ble_eq_true rfl) rfl ?_
  refine hz_iconst (pc := 10) (v := (-1)) (hz_dec kX12_post 6 rfl) (by decide) ?_
  refine hz_icmp_eq (pc := 11) (tgt := 39) (hz_dec kX12_post 7 rfl) (by decide) (fun h9 => ?_) (fun h9 => ?_)
  · skip
    exact absurd h9 (stI_b _)
  · skip
    refine hz_aloadn (pc := 14) 0 (hz_dec kX12_post 8 rfl) rfl ?_
    refine hz_iloadn (pc := 15) 2 (hz_dec kX12_post 9 rfl) rfl ?_
    refine hz_xV (pc := 16) (a := B) (As := [.int (nI b)]) (st := []) (hz_dec kX12_post 10 rfl) co_X12_692 im_X12_stateOf se_X12_stateOf rfl hO1 h8 (by omega) (c_st hnn hR1 hb) rfl (by decide) ⟨Nat.le_refl _, Nat.le_refl _⟩ (Nat.le_of_ble_eq_true rfl) rfl ?_
    refine hz_iconst (pc := 19) (v := (-1)) (hz_dec kX12_post 11 rfl) (by decide) ?_
    refine hz_icmp_eq (pc := 20) (tgt := 39) (hz_dec kX12_post 12 rfl) (by decide) (fun h8_ => ?_) (fun h8_ => ?_)
    · skip
      exact absurd h8_ (stI_b _)
    · skip
      refine hz_iloadn (pc := 23) 1 (hz_dec kX12_post 13 rfl) rfl ?_
      refine hz_iloadn (pc := 24) 2 (hz_dec kX12_post 14 rfl) rfl ?_
      refine hz_n_eq (pc := 25) (tgt := 39) (hz_dec kX12_post 15 rfl) (by decide) (by omega) (by omega) (fun h1 => ?_) (fun h1 => ?_)
      · skip
        refine hz_iconst (pc := 39) (v := (-1)) (hz_dec kX12_post 22 rfl) (by decide) ?_
        exact hz_iret (pc := 40) (hz_dec kX12_post 23 rfl) rfl ⟨rfl, rfl, hf1.S rfl, hR1⟩
      · skip
        refine hz_iloadn (pc := 28) 3 (hz_dec kX12_post 16 rfl) rfl ?_
        refine hz_iconst (pc := 29) (v := nI 1) (hz_dec kX12_post 17 rfl) (by decide) ?_
        refine hz_icmp_lt (pc := 30) (tgt := 39) (hz_dec kX12_post 18 rfl) (by decide) (fun h2 => ?_) (fun h2 => ?_)
        · skip
          refine hz_iconst (pc := 39) (v := (-1)) (hz_dec kX12_post 22 rfl) (by decide) ?_
          exact hz_iret (pc := 40) (hz_dec kX12_post 23 rfl) rfl ⟨rfl, rfl, hf1.S rfl, hR1⟩
        · skip
          refine hz_iloadn (pc := 33) 3 (hz_dec kX12_post 19 rfl) rfl ?_
          refine hz_bipush (pc := 34) (v := nI 6) (hz_dec kX12_post 20 rfl) (by decide) ?_
          refine hz_icmp_le (pc := 36) (tgt := 41) (hz_dec kX12_post 21 rfl) (by decide) (fun h3 => ?_) (fun h3 => ?_)
          · skip
            exact absurd h3 ((h.resolve_left h1).resolve_left h2)
          · skip
            refine hz_iconst (pc := 39) (v := (-1)) (hz_dec kX12_post 22 rfl) (by decide) ?_
            exact hz_iret (pc := 40) (hz_dec kX12_post 23 rfl) rfl ⟨rfl, rfl, hf1.S rfl, hR1⟩
set_option maxHeartbeats 4000000 in
set_option maxRecDepth 100000 in
theorem c_post {κ : hz_C} {z : Nat} {M : hz_M} {H : ho_H} (hz : 63 + 34 * (hoN H).length ≤ z) (hnn : (hoN H).length ≤ 6) (hT4 : (hoT H).length ≤ 4000) {ll : Nat} {fr kn : Int32} (hR : hcR M z H ll fr kn) {a b kd : Nat} (ha : a < (hoN H).length) (hb : b < (hoN H).length) (hab : ¬ a = b) (hk1_ : 1 ≤ kd) (hk6 : kd ≤ 6) : hz_Mt κ xX11_post 4 0 0 [.ref 8, .int (nI a), .int (nI b), .int (nI kd)] z M (hcP M z H (.int (hz_b (sdR (hoQ H).1 (hoD H (6 * a + b)) (hoT H).length))) (hot (hoq H (sd1 (hoW H) (nI a) (nI b) (nI kd) (hoD H (6 * a + b)) (hoT H) (hoQ H))) [] (hoE H))) := by
  refine hz_ent (lo := [(0, .ref 8), (1, .int (nI a)), (2, .int (nI b)), (3, .int (nI kd))]) (by decide) (Nat.le_of_ble_eq_true rfl) rfl ?_
  have hH := hR.1
  have hNs := hR.2.1
  obtain ⟨hO, hQ, hD⟩ := id hR.2.2.2.2.1
  obtain ⟨g53, h53⟩ := hR.2.2.2.2.2.1
  have hJ := hR.2.2.2.1
  obtain ⟨g56, h56, hT56⟩ := hR.2.2.2.2.2.2.2.2.2.1
  have hdf := hR.2.2.2.2.2.2.2.2.2.2
  have hck : ck_k M z := hJ.2.2.2.2.2.2.2.1
  have hcs : ck_s M := hJ.2.2.2.2.2.2.2.2.1
  have hz63 : 63 ≤ z := by omega
  obtain ⟨fd, hfd, hfx⟩ := id hD
  have hd9 : hoD H (6 * a + b) ≤ 9 := (hfx _ (by omega)).2
  refine hz_aloadn (pc := 0) 0 (hz_dec kX11_post 0 rfl) rfl ?_
  refine hz_iloadn (pc := 1) 1 (hz_dec kX11_post 1 rfl) rfl ?_
  refine hz_xV (pc := 2) (a := 8) (As := [.int (nI a)]) (st := []) (hz_dec kX11_post 2 rfl) co_X11_162 im_X11_nodeOf se_X11_nodeOf rfl hH (by omega) (by omega) (c_nOf hz63 hH hnn hNs (b := a) ha) rfl (by decide) ⟨Nat.le_refl _, Nat.le_refl _⟩ (Nat.le_of_ble_eq_true rfl) rfl ?_
  refine hz_ifnull (pc := 5) (hz_dec kX11_post 3 rfl) ?_
  refine hz_aloadn (pc := 8) 0 (hz_dec kX11_post 4 rfl) rfl ?_
  refine hz_iloadn (pc := 9) 2 (hz_dec kX11_post 5 rfl) rfl ?_
  refine hz_xV (pc := 10) (a := 8) (As := [.int (nI b)]) (st := []) (hz_dec kX11_post 6 rfl) co_X11_162 im_X11_nodeOf se_X11_nodeOf rfl hH (by omega) (by omega) (c_nOf hz63 hH hnn hNs (b := b) hb) rfl (by decide) ⟨Nat.le_refl _, Nat.le_refl _⟩ (Nat.le_of_ble_eq_true rfl) rfl ?_
  refine hz_ifnull (pc := 13) (hz_dec kX11_post 7 rfl) ?_
  refine hz_iloadn (pc := 16) 1 (hz_dec kX11_post 8 rfl) rfl ?_
  refine hz_iloadn (pc := 17) 2 (hz_dec kX11_post 9 rfl) rfl ?_
  refine hz_n_ne (pc := 18) (tgt := 23) (hz_dec kX11_post 10 rfl) (by decide) (by omega) (by omega) (fun h1 => ?_) (fun h1 => ?_)
  · skip
    refine hz_iloadn (pc := 23) 3 (hz_dec kX11_post 13 rfl) rfl ?_
    refine hz_iconst (pc := 24) (v := nI 1) (hz_dec kX11_post 14 rfl) (by decide) ?_
    refine hz_n_lt (pc := 25) (tgt := 34) (hz_dec kX11_post 15 rfl) (by decide) (by omega) (by omega) (fun h2 => ?_) (fun h2 => ?_)
    · skip
      exact absurd h2 (by omega)
    · skip
      refine hz_iloadn (pc := 28) 3 (hz_dec kX11_post 16 rfl) rfl ?_
      refine hz_bipush (pc := 29) (v := nI 6) (hz_dec kX11_post 17 rfl) (by decide) ?_
      refine hz_n_le (pc := 31) (tgt := 36) (hz_dec kX11_post 18 rfl) (by decide) (by omega) (by omega) (fun h3 => ?_) (fun h3 => ?_)
      · skip
        refine hz_aloadn (pc := 36) 0 (hz_dec kX11_post 21 rfl) rfl ?_
        refine hz_get (pc := 37) (hz_dec kX11_post 22 rfl) fo_X11_62 hH (by omega) (by omega) rfl ?_
        refine hz_iloadn (pc := 40) 1 (hz_dec kX11_post 23 rfl) rfl ?_
        refine hz_iloadn (pc := 41) 2 (hz_dec kX11_post 24 rfl) rfl ?_
        refine hz_iloadn (pc := 42) 3 (hz_dec kX11_post 25 rfl) rfl ?_
        refine hz_aloadn (pc := 43) 0 (hz_dec kX11_post 26 rfl) rfl ?_
        refine hz_get (pc := 44) (hz_dec kX11_post 27 rfl) fo_X11_72 hH (by omega) (by omega) rfl ?_
        refine hz_iconst (pc := 47) (v := nI 0) (hz_dec kX11_post 28 rfl) (by decide) ?_
        refine hz_aloadn (pc := 48) 0 (hz_dec kX11_post 29 rfl) rfl ?_
        refine hz_get (pc := 49) (hz_dec kX11_post 30 rfl) fo_X11_124 hH (by omega) (by omega) rfl ?_
        refine hz_callV (pc := 52) (a := 45) (As := [.int (nI a), .int (nI b), .int (nI kd), .ref 56, .int (nI 0), .int (nI ((hoT H).length))]) (st := []) (hz_dec kX11_post 31 rfl) co_X11_309 im_X5_send se_X5_send rfl hO (by omega) (by omega) (c_send hz63 hO hnn hQ (at_ := 0) (t := hoT H) h56 (by decide) (by omega) (by omega) (by decide) hT56 (by omega) hT4 (c_dly hz63 hO hnn hD ha hb) hd9) rfl (by decide) ⟨Nat.le_refl _, Nat.le_refl _⟩ (Nat.le_of_ble_eq_true rfl) rfl (fun r9 z9 M3 hp9 => ?_)
        obtain ⟨rfl, rfl, hf3, hO3, hQ3⟩ := hp9
        have hR3 : hcR M3 z (hoq H (sd1 (hoW H) (nI a) (nI b) (nI kd) (hoD H (6 * a + b)) (hoT H) (hoQ H))) ll fr kn := hcR.q (s := sd1 (hoW H) (nI a) (nI b) (nI kd) (hoD H (6 * a + b)) (hoT H) (hoQ H)) hR (hf3.mono (fun q (h9 : outS [(45, 54)] q) => ⟨by have r := h9.1; omega, trivial⟩)) hO3 hQ3 ⟨g53, (hf3.at1 (by omega)).trans h53⟩
        have hH3 := hR3.1
        have h563 := (hf3.at1 (by omega)).trans h56
        refine hz_istore (pc := 55) (i := 4) (lo2 := [(4, .int (hz_b (sdR (hoQ H).1 (hoD H (6 * a + b)) (hoT H).length))), (0, .ref 8), (1, .int (nI a)), (2, .int (nI b)), (3, .int (nI kd))]) (hz_dec kX11_post 32 rfl) (by decide) rfl ?_
        refine hz_aloadn (pc := 57) 1 (hz_dec kX11_post 33 rfl) rfl ?_
        refine hz_iconst (pc := 58) (v := nI 0) (hz_dec kX11_post 34 rfl) (by decide) ?_
        refine hz_puti (pc := 59) (hz_dec kX11_post 35 rfl) fo_X11_124 ft_X11_8 hH3 (by omega) (by omega) (Nat.le_of_ble_eq_true rfl) ?_
        refine hz_mem (pc := 62) (M2 := (va_up M3 8 (.inr (11, [.ref 9, .ref 13, .ref 20, .ref 25, .ref 39, .ref 45, .ref 55, .ref 56, .int (nI 0), .int (hoE H), .ref 57, .ref 58, .ref 61])))) rfl ?_
        refine hz_iload (pc := 62) 0 (hz_dec kX11_post 36 rfl) rfl ?_
        have hf4 : frS [(8, 9), (56, 57)] M3 (va_up M3 8 (.inr (11, [.ref 9, .ref 13, .ref 20, .ref 25, .ref 39, .ref 45, .ref 55, .ref 56, .int (nI 0), .int (hoE H), .ref 57, .ref 58, .ref 61]))) := ((frS.rf (S := [(8, 9), (56, 57)])).upr (a := 8) (by simp only [outS, and_true]; omega))
        have hR4 : hcR (va_up M3 8 (.inr (11, [.ref 9, .ref 13, .ref 20, .ref 25, .ref 39, .ref 45, .ref 55, .ref 56, .int (nI 0), .int (hoE H), .ref 57, .ref 58, .ref 61]))) z (hot (hoq H (sd1 (hoW H) (nI a) (nI b) (nI kd) (hoD H (6 * a + b)) (hoT H) (hoQ H))) [] (hoE H)) ll fr kn := hR3.t (T := []) hf4 (va_up_self _ _ _) ⟨g56, hz_mne h563 (by decide), isA_nil _ _⟩
        have hfz : frS [(8, 63 + 34 * (hoN H).length)] M (va_up M3 8 (.inr (11, [.ref 9, .ref 13, .ref 20, .ref 25, .ref 39, .ref 45, .ref 55, .ref 56, .int (nI 0), .int (hoE H), .ref 57, .ref 58, .ref 61]))) := (hf3.mono (fun q (h9 : outS [(8, 63 + 34 * (hoN H).length)] q) => ⟨by have r := h9.1; omega, trivial⟩)).tr (hf4.mono (fun q (h9 : outS [(8, 63 + 34 * (hoN H).length)] q) => ⟨by have r := h9.1; omega, by have r := h9.1; omega, trivial⟩))
        refine hz_if_eq (pc := 64) (tgt := 71) (hz_dec kX11_post 37 rfl) (by decide) (fun h5 => ?_) (fun h5 => ?_)
        · skip
          refine hz_iconst (pc := 71) (v := nI 0) (hz_dec kX11_post 40 rfl) (by decide) ?_
          exact hz_iret (pc := 72) (hz_dec kX11_post 41 rfl) rfl ⟨by rw [h5]; rfl, rfl, hfz, ll, fr, kn, hR4⟩
        · skip
          refine hz_iconst (pc := 67) (v := nI 1) (hz_dec kX11_post 38 rfl) (by decide) ?_
          refine hz_goto (pc := 68) (tgt := 72) (hz_dec kX11_post 39 rfl) (by decide) ?_
          exact hz_iret (pc := 72) (hz_dec kX11_post 41 rfl) rfl ⟨by rw [hz_b1 h5]; rfl, rfl, hfz, ll, fr, kn, hR4⟩
      · skip
        exact absurd hk6 (by omega)
  · skip
    exact absurd h1 hab
set_option maxHeartbeats 4000000 in
set_option maxRecDepth 100000 in
theorem c_rpost {κ : hz_C} {z B : Nat} {M : hz_M} {H : ho_H} (hnn : (hoN H).length ≤ 6) (hT4 : (hoT H).length ≤ 4000) (hR : hmR M z B H) {a b kd : Nat} (ha : a < (hoN H).length) (hb : b < (hoN H).length) (hab : ¬ a = b) (hk1_ : 1 ≤ kd) (hk6 : kd ≤ 6) : hz_Mt κ xX12_post 1 0 0 [.ref B, .int (nI a), .int (nI b), .int (nI kd)] z M (hmP M z B (.int (hz_b (sdR (hoQ H).1 (hoD H (6 * a + b)) (hoT H).length))) (hot (hoq H (sd1 (hoW H) (nI a) (nI b) (nI kd) (hoD H (6 * a + b)) (hoT H) (hoQ H))) [] (hoE H))) := by
  refine hz_ent (lo := [(0, .ref B), (1, .int (nI a)), (2, .int (nI b)), (3, .int (nI kd))]) (by decide) (Nat.le_of_ble_eq_true rfl) rfl ?_
  obtain ⟨hk0_, hE0, ⟨m1, m2, m3⟩, hNd, a5, a6, a7, a8⟩ := id hR
  obtain ⟨⟨fs, hO, hF⟩, -, -, h8, hz⟩ := id hk0_
  obtain ⟨x1, x3, x4, x5, x6, x7, x8⟩ := id m3
  refine hz_aloadn (pc := 0) 0 (hz_dec kX12_post 0 rfl) rfl ?_
  refine hz_iconst (pc := 1) (v := nI 0) (hz_dec kX12_post 1 rfl) (by decide) ?_
  refine hz_puti (pc := 2) (hz_dec kX12_post 2 rfl) fo_X12_302 ft_X12_0 hO h8 (by omega) (by rw [hF.1]; decide) ?_
  have hf1 : mfr B [0, 89] [] M (va_up M B (.inr (12, (List.set fs 0 (.int (nI 0)))))) := (mfr.rf ⟨fs, hO, hF⟩).upO (k := 0) hO hF rfl rfl
  have hR1 : hmR (va_up M B (.inr (12, (List.set fs 0 (.int (nI 0)))))) z B H := hR.m0 hf1 hE0.upO ((fdB_of (va_up_self _ _ _) 89).trans ((List.getElem?_set_ne (by decide)).trans ((fdB_of hO 89).symm.trans x8)))
  generalize (va_up M B (.inr (12, (List.set fs 0 (.int (nI 0)))))) = M1 at *
  obtain ⟨hk1, hE1, ⟨n1, d1, q1⟩, hNd1, a51, a61, a71, a81⟩ := id hR1
  obtain ⟨⟨fs1, hO1, hF1⟩, -, -, -, -⟩ := id hk1
  have g95_1 : fs1[95]? = some (.int (nI ((hoT H).length))) := (fdB_of hO1 95).symm.trans a61
  have g103_1 : fs1[103]? = some (.int (hoE H)) := (fdB_of hO1 103).symm.trans a81
  refine hz_aloadn (pc := 5) 0 (hz_dec kX12_post 3 rfl) rfl ?_
  refine hz_iloadn (pc := 6) 1 (hz_dec kX12_post 4 rfl) rfl ?_
  refine hz_xV (pc := 7) (a := B) (As := [.int (nI a)]) (st := []) (hz_dec kX12_post 5 rfl) co_X12_692 im_X12_stateOf se_X12_stateOf rfl hO1 h8 (by omega) (c_st hnn hR1 ha) rfl (by decide) ⟨Nat.le_refl _, Nat.le_refl _⟩ (Nat.le_of_ble_eq_true rfl) rfl ?_
  refine hz_iconst (pc := 10) (v := (-1)) (hz_dec kX12_post 6 rfl) (by decide) ?_
  refine hz_icmp_eq (pc := 11) (tgt := 39) (hz_dec kX12_post 7 rfl) (by decide) (fun h0 => ?_) (fun h0 => ?_)
  · skip
    exact absurd h0 (stI_b _)
  · skip
    refine hz_aloadn (pc := 14) 0 (hz_dec kX12_post 8 rfl) rfl ?_
    refine hz_iloadn (pc := 15) 2 (hz_dec kX12_post 9 rfl) rfl ?_
    refine hz_xV (pc := 16) (a := B) (As := [.int (nI b)]) (st := []) (hz_dec kX12_post 10 rfl) co_X12_692 im_X12_stateOf se_X12_stateOf rfl hO1 h8 (by omega) (c_st hnn hR1 hb) rfl (by decide) ⟨Nat.le_refl _, Nat.le_refl _⟩ (Nat.le_of_ble_eq_true rfl) rfl ?_
    refine hz_iconst (pc := 19) (v := (-1)) (hz_dec kX12_post 11 rfl) (by decide) ?_
    refine hz_icmp_eq (pc := 20) (tgt := 39) (hz_dec kX12_post 12 rfl) (by decide) (fun h1 => ?_) (fun h1 => ?_)
    · skip
      exact absurd h1 (stI_b _)
    · skip
      refine hz_iloadn (pc := 23) 1 (hz_dec kX12_post 13 rfl) rfl ?_
      refine hz_iloadn (pc := 24) 2 (hz_dec kX12_post 14 rfl) rfl ?_
      refine hz_n_eq (pc := 25) (tgt := 39) (hz_dec kX12_post 15 rfl) (by decide) (by omega) (by omega) (fun h2 => ?_) (fun h2 => ?_)
      · skip
        exact absurd h2 hab
      · skip
        refine hz_iloadn (pc := 28) 3 (hz_dec kX12_post 16 rfl) rfl ?_
        refine hz_iconst (pc := 29) (v := nI 1) (hz_dec kX12_post 17 rfl) (by decide) ?_
        refine hz_n_lt (pc := 30) (tgt := 39) (hz_dec kX12_post 18 rfl) (by decide) (by omega) (by omega) (fun h3 => ?_) (fun h3 => ?_)
        · skip
          exact absurd h3 (by omega)
        · skip
          refine hz_iloadn (pc := 33) 3 (hz_dec kX12_post 19 rfl) rfl ?_
          refine hz_bipush (pc := 34) (v := nI 6) (hz_dec kX12_post 20 rfl) (by decide) ?_
          refine hz_n_le (pc := 36) (tgt := 41) (hz_dec kX12_post 21 rfl) (by decide) (by omega) (by omega) (fun h4 => ?_) (fun h4 => ?_)
          · skip
            refine hz_aloadn (pc := 41) 0 (hz_dec kX12_post 24 rfl) rfl ?_
            refine hz_get (pc := 42) (v := .int (nI ((hoT H).length))) (hz_dec kX12_post 25 rfl) fo_X12_679 hO1 h8 (by omega) g95_1 ?_
            refine hz_istore (pc := 45) (i := 4) (lo2 := [(4, .int (nI ((hoT H).length))), (0, .ref B), (1, .int (nI a)), (2, .int (nI b)), (3, .int (nI kd))]) (hz_dec kX12_post 26 rfl) (by decide) rfl ?_
            refine hz_aloadn (pc := 47) 1 (hz_dec kX12_post 27 rfl) rfl ?_
            refine hz_iconst (pc := 48) (v := nI 0) (hz_dec kX12_post 28 rfl) (by decide) ?_
            refine hz_puti (pc := 49) (hz_dec kX12_post 29 rfl) fo_X12_679 ft_X12_95 hO1 h8 (by omega) (by rw [hF1.1]; decide) ?_
            refine hz_aloadn (pc := 52) 1 (hz_dec kX12_post 30 rfl) rfl ?_
            refine hz_iloadn (pc := 53) 2 (hz_dec kX12_post 31 rfl) rfl ?_
            refine hz_iloadn (pc := 54) 3 (hz_dec kX12_post 32 rfl) rfl ?_
            refine hz_iloadn (pc := 55) 4 (hz_dec kX12_post 33 rfl) rfl ?_
            refine hz_aloadn (pc := 56) 1 (hz_dec kX12_post 34 rfl) rfl ?_
            refine hz_get (pc := 57) (v := .ref (B + 80)) (hz_dec kX12_post 35 rfl) fo_X12_261 (va_up_self _ _ _) h8 (by omega) ((md_set hF1 rfl).2 94 (by decide) (by decide)) ?_
            refine hz_iconst (pc := 60) (v := nI 0) (hz_dec kX12_post 36 rfl) (by decide) ?_
            refine hz_iload (pc := 61) 0 (hz_dec kX12_post 37 rfl) rfl ?_
            have hf2 : mfr B [95, 103] [80] M1 (va_up M1 B (.inr (12, (List.set fs1 95 (.int (nI 0)))))) := ((mfr.rf (ks := [95, 103]) (os := [80]) hk1.1).upO (k := 95) hO1 hF1 rfl rfl)
            have hE2 : mdE (va_up M1 B (.inr (12, (List.set fs1 95 (.int (nI 0)))))) B := (hE1.upO)
            have hR2 : hmR (va_up M1 B (.inr (12, (List.set fs1 95 (.int (nI 0)))))) z B (hot H [] (hoE H)) := hR1.t hf2 hE2 (isA_nil _ _) ((fdB_of (va_up_self _ _ _) 95).trans (List.getElem?_set_self (by rw [hF1.1]; decide))) ((fdB_of (va_up_self _ _ _) 103).trans ((List.getElem?_set_ne (by decide)).trans g103_1))
            have h80 : (va_up M1 B (.inr (12, (List.set fs1 95 (.int (nI 0)))))) (B + 80) = .inl (1, 4000, .inl (fA M1 B 80)) := hz_mne hE1.a80 (by omega)
            generalize (va_up M1 B (.inr (12, (List.set fs1 95 (.int (nI 0)))))) = M2 at *
            obtain ⟨hk2, hE2, ⟨n2, d2, q2⟩, hNd2, a52, a62, a72, a82⟩ := id hR2
            obtain ⟨⟨fs2, hO2, hF2⟩, -, -, -, -⟩ := id hk2
            refine hz_callV (pc := 63) (a := B) (As := [.int (nI a), .int (nI b), .int (nI kd), .ref (B + 80), .int (nI 0), .int (nI ((hoT H).length))]) (st := []) (hz_dec kX12_post 38 rfl) co_X12_622 im_X12_send se_X12_send rfl hO2 h8 (by omega) (c_msend hk2.1 hE2 h8 hz q2 d2 (at_ := 0) (t := hoT H) (d := hoD H (6 * a + b)) h80 (by omega) (by omega) (fun o ho => by have r : o ≠ 80 := fun c => absurd ho (by rw [c]; decide); omega) (by decide) a51 (by omega) hT4 (by omega) (Or.inl ⟨b, by omega, rfl, rfl⟩)) rfl (by decide) ⟨Nat.le_refl _, Nat.le_refl _⟩ (Nat.le_of_ble_eq_true rfl) rfl (fun r9 z9 M3 hp9 => ?_)
            obtain ⟨rfl, rfl, hf3, hE3, hQ3⟩ := hp9
            have hR3 : hmR M3 z B (hot (hoq H (sd1 (hoW H) (nI a) (nI b) (nI kd) (hoD H (6 * a + b)) (hoT H) (hoQ H))) [] (hoE H)) := hmR.q (s := sd1 (hoW H) (nI a) (nI b) (nI kd) (hoD H (6 * a + b)) (hoT H) (hoQ H)) hR2 (hf3.mono rfl rfl) hE3 ⟨(hf3.2.2 1 rfl).trans n2, by unfold mdD; rw [fA_m hf3 (by decide) rfl]; exact d2, hQ3⟩
            exact hz_iret (pc := 66) (hz_dec kX12_post 39 rfl) rfl ⟨rfl, rfl, ((hf1.S rfl).tr (hf2.S rfl)).tr (hf3.S rfl), hR3⟩
          · skip
            exact absurd hk6 (by omega)
