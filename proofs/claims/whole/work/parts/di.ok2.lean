/-! each call on a node -/
theorem k_fuse {F : by_L} {v n : Int32} : okF Value.int F xX11_fuse xX12_fuse 1 1 [.int v, .int n] := by
  intro H hG hq
  have hnn := hG.2.2.2.1
  have hT4 := hG.2.1
  have hX := hG.1
  rcases i_sp v (n := (hoN H).length) (by omega) with hv | ⟨v, hv, rfl⟩
  · exact okE (fun κ z M ll fr kn hz hR => c_fuseN hz hnn hT4 hR hv) (fun κ z B M hR hF => c_rfuseN hnn hT4 hR hv) ⟨hG, rfl⟩
  obtain ⟨N, hN⟩ : ∃ N, ndL (hoN H) v = N := ⟨_, rfl⟩
  have hI : ksI N.1 := by rw [← hN]; exact hX.1 v hv
  have hb : bkL (ksB N.1) 0 = fiB F := by rw [← hN]; exact hG.2.2.1 v hv
  have hbp := hI.1.p hI.2.1
  have hlb := hbp.1
  cases hup : N.2.1 with
  | false =>
    exact okE (fun κ z M ll fr kn hz hR => c_fuseD hz hnn hT4 hR hv hN hup) (fun κ z B M hR hF => c_rfuseD hnn hT4 hR hv hN hup) ⟨hG, rfl⟩
  | true =>
    exact okE (fun κ z M ll fr kn hz hR => c_fuse hz hnn hT4 hR hv hN hup ) (fun κ z B M hR hF => c_rfuse hnn hT4 hR hv hN hup hX) (hG.n (N := ndo N (fuI n) true) hv (fu_I hI) hb hX.2.2)
theorem k_down {F : by_L} {v : Int32} : okF Value.int F xX11_down xX12_down 1 1 [.int v] := by
  intro H hG hq
  have hnn := hG.2.2.2.1
  have hT4 := hG.2.1
  have hX := hG.1
  rcases i_sp v (n := (hoN H).length) (by omega) with hv | ⟨v, hv, rfl⟩
  · exact okE (fun κ z M ll fr kn hz hR => c_downN hz hnn hT4 hR hv) (fun κ z B M hR hF => c_rdownN hnn hT4 hR hv) ⟨hG, rfl⟩
  obtain ⟨N, hN⟩ : ∃ N, ndL (hoN H) v = N := ⟨_, rfl⟩
  have hI : ksI N.1 := by rw [← hN]; exact hX.1 v hv
  have hb : bkL (ksB N.1) 0 = fiB F := by rw [← hN]; exact hG.2.2.1 v hv
  have hbp := hI.1.p hI.2.1
  have hlb := hbp.1
  cases hup : N.2.1 with
  | false =>
    exact okE (fun κ z M ll fr kn hz hR => c_downD hz hnn hT4 hR hv hN hup) (fun κ z B M hR hF => c_rdownD hnn hT4 hR hv hN hup) ⟨hG, rfl⟩
  | true =>
    exact okE (fun κ z M ll fr kn hz hR => c_down hz hnn hT4 hR hv hN hup ) (fun κ z B M hR hF => c_rdown hnn hT4 hR hv hN hup hX) (hG.n (N := ndo N (ksF N.1) false) hv hI hb hX.2.2)
theorem k_up {F : by_L} {v : Int32} : okF Value.int F xX11_up xX12_up 7 11 [.int v] := by
  intro H hG hq
  have hnn := hG.2.2.2.1
  have hT4 := hG.2.1
  have hX := hG.1
  rcases i_sp v (n := (hoN H).length) (by omega) with hv | ⟨v, hv, rfl⟩
  · exact okE (fun κ z M ll fr kn hz hR => c_upN hz hnn hT4 hR hv) (fun κ z B M hR hF => c_rupN hnn hT4 hR hv) ⟨hG, rfl⟩
  obtain ⟨N, hN⟩ : ∃ N, ndL (hoN H) v = N := ⟨_, rfl⟩
  have hI : ksI N.1 := by rw [← hN]; exact hX.1 v hv
  have hb : bkL (ksB N.1) 0 = fiB F := by rw [← hN]; exact hG.2.2.1 v hv
  have hbp := hI.1.p hI.2.1
  have hlb := hbp.1
  cases hup : N.2.1 with
  | false =>
    exact okE (fun κ z M ll fr kn hz hR => c_up hz hnn hT4 hR hv hN hup hI) (fun κ z B M hR hF => c_rup hnn hT4 hR hv hN hup hI hX hF hG.2.2.1) (hG.n (N := upN N) hv (upN_I hI) (upN_f.trans hb) hX.2.2)
  | true =>
    exact okE (fun κ z M ll fr kn hz hR => c_upU hz hnn hT4 hR hv hN hup ) (fun κ z B M hR hF => c_rupU hnn hT4 hR hv hN hup ) ⟨hG, rfl⟩
theorem k_peek {F : by_L} {v i : Int32} : okF Value.int F xX11_peek xX12_peek 1 1 [.int v, .int i] := by
  intro H hG hq
  have hnn := hG.2.2.2.1
  have hT4 := hG.2.1
  have hX := hG.1
  rcases i_sp v (n := (hoN H).length) (by omega) with hv | ⟨v, hv, rfl⟩
  · exact okE (fun κ z M ll fr kn hz hR => c_peekN hz hnn hT4 hR hv) (fun κ z B M hR hF => c_rpeekN hnn hT4 hR hv) ⟨hG, rfl⟩
  obtain ⟨N, hN⟩ : ∃ N, ndL (hoN H) v = N := ⟨_, rfl⟩
  have hI : ksI N.1 := by rw [← hN]; exact hX.1 v hv
  have hb : bkL (ksB N.1) 0 = fiB F := by rw [← hN]; exact hG.2.2.1 v hv
  have hbp := hI.1.p hI.2.1
  have hlb := hbp.1
  rcases i_sp i (n := 12288) (by omega) with hi | ⟨i, hi, rfl⟩
  · exact okE (fun κ z M ll fr kn hz hR => c_peekI hz hnn hT4 hR hv hN hi) (fun κ z B M hR hF => c_rpeekI hnn hT4 hR hv hN hi) ⟨hG, rfl⟩
  · exact okE (fun κ z M ll fr kn hz hR => c_peek hz hnn hT4 hR hv hN hi) (fun κ z B M hR hF => c_rpeek hnn hT4 hR hv hN hi) ⟨hG, rfl⟩
theorem k_poke {F : by_L} {v i b : Int32} : okF Value.int F xX11_poke xX12_poke 1 1 [.int v, .int i, .int b] := by
  intro H hG hq
  have hnn := hG.2.2.2.1
  have hT4 := hG.2.1
  have hX := hG.1
  rcases i_sp v (n := (hoN H).length) (by omega) with hv | ⟨v, hv, rfl⟩
  · exact okE (fun κ z M ll fr kn hz hR => c_pokeN hz hnn hT4 hR hv) (fun κ z B M hR hF => c_rpokeN hnn hT4 hR hv) ⟨hG, rfl⟩
  obtain ⟨N, hN⟩ : ∃ N, ndL (hoN H) v = N := ⟨_, rfl⟩
  have hI : ksI N.1 := by rw [← hN]; exact hX.1 v hv
  have hb : bkL (ksB N.1) 0 = fiB F := by rw [← hN]; exact hG.2.2.1 v hv
  have hbp := hI.1.p hI.2.1
  have hlb := hbp.1
  rcases i_sp i (n := 12288) (by omega) with hi | ⟨i, hi, rfl⟩
  · exact okE (fun κ z M ll fr kn hz hR => c_pokeI hz hnn hT4 hR hv hN hi) (fun κ z B M hR hF => c_rpokeI hnn hT4 hR hv hN hi) ⟨hG, rfl⟩
  · exact okE (fun κ z M ll fr kn hz hR => c_poke hz hnn hT4 hR hv hN hi) (fun κ z B M hR hF => c_rpoke hnn hT4 hR hv hN hi hX) (hG.n hv (show ksI (ksd N.1 _) from hI) hb hX.2.2)
theorem k_told {F : by_L} {v wh : Int32} : okF Value.int F xX11_told xX12_told 4 4 [.int v, .int wh] := by
  intro H hG hq
  have hnn := hG.2.2.2.1
  have hT4 := hG.2.1
  have hX := hG.1
  rcases i_sp v (n := (hoN H).length) (by omega) with hv | ⟨v, hv, rfl⟩
  · exact okE (fun κ z M ll fr kn hz hR => c_toldN hz hnn hT4 hR hv) (fun κ z B M hR hF => c_rtoldN hnn hT4 hR hv) ⟨hG, rfl⟩
  obtain ⟨N, hN⟩ : ∃ N, ndL (hoN H) v = N := ⟨_, rfl⟩
  have hI : ksI N.1 := by rw [← hN]; exact hX.1 v hv
  have hb : bkL (ksB N.1) 0 = fiB F := by rw [← hN]; exact hG.2.2.1 v hv
  have hbp := hI.1.p hI.2.1
  have hlb := hbp.1
  rcases i_sl wh (n := 10) (by omega) with hw | ⟨wh, hw, rfl⟩
  · exact okE (fun κ z M ll fr kn hz hR => c_toldW hz hnn hT4 hR hv hN hw) (fun κ z B M hR hF => c_rtoldW hnn hT4 hR hv hN hw) ⟨hG, rfl⟩
  · cases hup : N.2.1 with
    | false =>
      rcases (show wh = 0 ∨ wh = 1 ∨ wh = 2 ∨ wh = 3 ∨ wh = 4 ∨ wh = 5 ∨ wh = 6 ∨ wh = 7 ∨ wh = 8 ∨ wh = 9 ∨ wh = 10 by omega) with rfl | rfl | rfl | rfl | rfl | rfl | rfl | rfl | rfl | rfl | rfl
      · exact okE (fun κ z M ll fr kn hz hR => c_toldD0 hz hnn hT4 hR hv hN hup) (fun κ z B M hR hF => c_rtoldD0 hnn hT4 hR hv hN hup) ⟨hG, rfl⟩
      · exact okE (fun κ z M ll fr kn hz hR => c_toldD1 hz hnn hT4 hR hv hN hup) (fun κ z B M hR hF => c_rtoldD1 hnn hT4 hR hv hN hup) ⟨hG, rfl⟩
      · exact okE (fun κ z M ll fr kn hz hR => c_toldD2 hz hnn hT4 hR hv hN hup) (fun κ z B M hR hF => c_rtoldD2 hnn hT4 hR hv hN hup) ⟨hG, rfl⟩
      · exact okE (fun κ z M ll fr kn hz hR => c_toldD3 hz hnn hT4 hR hv hN hup) (fun κ z B M hR hF => c_rtoldD3 hnn hT4 hR hv hN hup) ⟨hG, rfl⟩
      · exact okE (fun κ z M ll fr kn hz hR => c_toldD4 hz hnn hT4 hR hv hN hup) (fun κ z B M hR hF => c_rtoldD4 hnn hT4 hR hv hN hup) ⟨hG, rfl⟩
      · exact okE (fun κ z M ll fr kn hz hR => c_toldD5 hz hnn hT4 hR hv hN hup) (fun κ z B M hR hF => c_rtoldD5 hnn hT4 hR hv hN hup) ⟨hG, rfl⟩
      · exact okE (fun κ z M ll fr kn hz hR => c_toldD6 hz hnn hT4 hR hv hN hup) (fun κ z B M hR hF => c_rtoldD6 hnn hT4 hR hv hN hup) ⟨hG, rfl⟩
      · exact okE (fun κ z M ll fr kn hz hR => c_toldD7 hz hnn hT4 hR hv hN hup) (fun κ z B M hR hF => c_rtoldD7 hnn hT4 hR hv hN hup) ⟨hG, rfl⟩
      · exact okE (fun κ z M ll fr kn hz hR => c_toldD8 hz hnn hT4 hR hv hN hup) (fun κ z B M hR hF => c_rtoldD8 hnn hT4 hR hv hN hup) ⟨hG, rfl⟩
      · exact okE (fun κ z M ll fr kn hz hR => c_toldD9 hz hnn hT4 hR hv hN hup) (fun κ z B M hR hF => c_rtoldD9 hnn hT4 hR hv hN hup) ⟨hG, rfl⟩
      · exact okE (fun κ z M ll fr kn hz hR => c_toldD10 hz hnn hT4 hR hv hN hup) (fun κ z B M hR hF => c_rtoldD10 hnn hT4 hR hv hN hup) ⟨hG, rfl⟩
    | true =>
      rcases (show wh = 0 ∨ wh = 1 ∨ wh = 2 ∨ wh = 3 ∨ wh = 4 ∨ wh = 5 ∨ wh = 6 ∨ wh = 7 ∨ wh = 8 ∨ wh = 9 ∨ wh = 10 by omega) with rfl | rfl | rfl | rfl | rfl | rfl | rfl | rfl | rfl | rfl | rfl
      · exact okE (fun κ z M ll fr kn hz hR => c_toldU0 hz hnn hT4 hR hv hN hup hI) (fun κ z B M hR hF => c_rtoldU0 hnn hT4 hR hv hN hup hI) ⟨hG, rfl⟩
      · exact okE (fun κ z M ll fr kn hz hR => c_toldU1 hz hnn hT4 hR hv hN hup hI) (fun κ z B M hR hF => c_rtoldU1 hnn hT4 hR hv hN hup hI) ⟨hG, rfl⟩
      · exact okE (fun κ z M ll fr kn hz hR => c_toldU2 hz hnn hT4 hR hv hN hup hI) (fun κ z B M hR hF => c_rtoldU2 hnn hT4 hR hv hN hup hI) ⟨hG, rfl⟩
      · exact okE (fun κ z M ll fr kn hz hR => c_toldU3 hz hnn hT4 hR hv hN hup hI) (fun κ z B M hR hF => c_rtoldU3 hnn hT4 hR hv hN hup hI) ⟨hG, rfl⟩
      · exact okE (fun κ z M ll fr kn hz hR => c_toldU4 hz hnn hT4 hR hv hN hup hI) (fun κ z B M hR hF => c_rtoldU4 hnn hT4 hR hv hN hup hI) ⟨hG, rfl⟩
      · exact okE (fun κ z M ll fr kn hz hR => c_toldU5 hz hnn hT4 hR hv hN hup hI) (fun κ z B M hR hF => c_rtoldU5 hnn hT4 hR hv hN hup hI) ⟨hG, rfl⟩
      · exact okE (fun κ z M ll fr kn hz hR => c_toldU6 hz hnn hT4 hR hv hN hup hI) (fun κ z B M hR hF => c_rtoldU6 hnn hT4 hR hv hN hup hI) ⟨hG, rfl⟩
      · exact okE (fun κ z M ll fr kn hz hR => c_toldU7 hz hnn hT4 hR hv hN hup hI) (fun κ z B M hR hF => c_rtoldU7 hnn hT4 hR hv hN hup hI) ⟨hG, rfl⟩
      · exact okE (fun κ z M ll fr kn hz hR => c_toldU8 hz hnn hT4 hR hv hN hup hI) (fun κ z B M hR hF => c_rtoldU8 hnn hT4 hR hv hN hup hI) ⟨hG, rfl⟩
      · exact okE (fun κ z M ll fr kn hz hR => c_toldU9 hz hnn hT4 hR hv hN hup hI) (fun κ z B M hR hF => c_rtoldU9 hnn hT4 hR hv hN hup hI) ⟨hG, rfl⟩
      · exact okE (fun κ z M ll fr kn hz hR => c_toldU10 hz hnn hT4 hR hv hN hup hI) (fun κ z B M hR hF => c_rtoldU10 hnn hT4 hR hv hN hup hI) ⟨hG, rfl⟩
theorem k_block {F : by_L} {v k wh : Int32} : okF Value.int F xX11_block xX12_block 2 3 [.int v, .int k, .int wh] := by
  intro H hG hq
  have hnn := hG.2.2.2.1
  have hT4 := hG.2.1
  have hX := hG.1
  rcases i_sp v (n := (hoN H).length) (by omega) with hv | ⟨v, hv, rfl⟩
  · exact okE (fun κ z M ll fr kn hz hR => c_blockN hz hnn hT4 hR hv) (fun κ z B M hR hF => c_rblockN hnn hT4 hR hv) ⟨hG, rfl⟩
  obtain ⟨N, hN⟩ : ∃ N, ndL (hoN H) v = N := ⟨_, rfl⟩
  have hI : ksI N.1 := by rw [← hN]; exact hX.1 v hv
  have hb : bkL (ksB N.1) 0 = fiB F := by rw [← hN]; exact hG.2.2.1 v hv
  have hbp := hI.1.p hI.2.1
  have hlb := hbp.1
  rcases i_sl wh (n := 6) (by omega) with hw | ⟨wh, hw, rfl⟩
  · exact okE (fun κ z M ll fr kn hz hR => c_blockW hz hnn hT4 hR hv hN hw) (fun κ z B M hR hF => c_rblockW hnn hT4 hR hv hN hw) ⟨hG, rfl⟩
  · cases hup : N.2.1 with
    | false =>
      exact okE (fun κ z M ll fr kn hz hR => c_blockD hz hnn hT4 hR hv hN hw hup) (fun κ z B M hR hF => c_rblockD hnn hT4 hR hv hN hw hup) ⟨hG, rfl⟩
    | true =>
      rcases i_sp k (n := (ksB N.1).length) (by omega) with hk | ⟨k, hk, rfl⟩
      · exact okE (fun κ z M ll fr kn hz hR => c_blockK hz hnn hT4 hR hv hN hw hup hk hI) (fun κ z B M hR hF => c_rblockK hnn hT4 hR hv hN hw hup hk hI) ⟨hG, rfl⟩
      · rcases (show wh = 0 ∨ wh = 1 ∨ wh = 2 ∨ wh = 3 ∨ wh = 4 ∨ wh = 5 ∨ wh = 6 by omega) with rfl | rfl | rfl | rfl | rfl | rfl | rfl
        · exact okE (fun κ z M ll fr kn hz hR => c_block0 hz hnn hT4 hR hv hN hk hup hI) (fun κ z B M hR hF => c_rblock0 hnn hT4 hR hv hN hk hup hI) ⟨hG, rfl⟩
        · exact okE (fun κ z M ll fr kn hz hR => c_block1 hz hnn hT4 hR hv hN hk hup hI) (fun κ z B M hR hF => c_rblock1 hnn hT4 hR hv hN hk hup hI) ⟨hG, rfl⟩
        · exact okE (fun κ z M ll fr kn hz hR => c_block2 hz hnn hT4 hR hv hN hk hup hI) (fun κ z B M hR hF => c_rblock2 hnn hT4 hR hv hN hk hup hI) ⟨hG, rfl⟩
        · exact okE (fun κ z M ll fr kn hz hR => c_block3 hz hnn hT4 hR hv hN hk hup hI) (fun κ z B M hR hF => c_rblock3 hnn hT4 hR hv hN hk hup hI) ⟨hG, rfl⟩
        · exact okE (fun κ z M ll fr kn hz hR => c_block4 hz hnn hT4 hR hv hN hk hup hI) (fun κ z B M hR hF => c_rblock4 hnn hT4 hR hv hN hk hup hI) ⟨hG, rfl⟩
        · exact okE (fun κ z M ll fr kn hz hR => c_block5 hz hnn hT4 hR hv hN hk hup hI) (fun κ z B M hR hF => c_rblock5 hnn hT4 hR hv hN hk hup hI) ⟨hG, rfl⟩
        · exact okE (fun κ z M ll fr kn hz hR => c_block6 hz hnn hT4 hR hv hN hk hup hI) (fun κ z B M hR hF => c_rblock6 hnn hT4 hR hv hN hk hup hI) ⟨hG, rfl⟩
theorem k_limb {F : by_L} {v k wh : Int32} : okF Value.long F xX11_limb xX12_limb 2 2 [.int v, .int k, .int wh] := by
  intro H hG hq
  have hnn := hG.2.2.2.1
  have hT4 := hG.2.1
  have hX := hG.1
  rcases i_sp v (n := (hoN H).length) (by omega) with hv | ⟨v, hv, rfl⟩
  · exact okE (fun κ z M ll fr kn hz hR => c_limbN hz hnn hT4 hR hv) (fun κ z B M hR hF => c_rlimbN hnn hT4 hR hv) ⟨hG, rfl⟩
  obtain ⟨N, hN⟩ : ∃ N, ndL (hoN H) v = N := ⟨_, rfl⟩
  have hI : ksI N.1 := by rw [← hN]; exact hX.1 v hv
  have hb : bkL (ksB N.1) 0 = fiB F := by rw [← hN]; exact hG.2.2.1 v hv
  have hbp := hI.1.p hI.2.1
  have hlb := hbp.1
  cases hup : N.2.1 with
  | false =>
    exact okE (fun κ z M ll fr kn hz hR => c_limbD hz hnn hT4 hR hv hN hup) (fun κ z B M hR hF => c_rlimbD hnn hT4 hR hv hN hup) ⟨hG, rfl⟩
  | true =>
    rcases i_sp k (n := (ksB N.1).length) (by omega) with hk | ⟨k, hk, rfl⟩
    · exact okE (fun κ z M ll fr kn hz hR => c_limbK hz hnn hT4 hR hv hN hup hI hk) (fun κ z B M hR hF => c_rlimbK hnn hT4 hR hv hN hup hI hk) ⟨hG, rfl⟩
    · rcases i_sl wh (n := 12) (by omega) with hw | ⟨wh, hw, rfl⟩
      · exact okE (fun κ z M ll fr kn hz hR => c_limbW hz hnn hT4 hR hv hN hup hI hk hw) (fun κ z B M hR hF => c_rlimbW hnn hT4 hR hv hN hup hI hk hw) ⟨hG, rfl⟩
      · rcases (show wh < 4 ∨ (4 ≤ wh ∧ wh < 8) ∨ (8 ≤ wh ∧ wh < 12) ∨ wh = 12 by omega) with c | c | c | c
        · exact okE (fun κ z M ll fr kn hz hR => c_limb0 hz hnn hT4 hR hv hN hup hI hk c) (fun κ z B M hR hF => c_rlimb0 hnn hT4 hR hv hN hup hI hk c) ⟨hG, rfl⟩
        · exact okE (fun κ z M ll fr kn hz hR => c_limb4 hz hnn hT4 hR hv hN hup hI hk c) (fun κ z B M hR hF => c_rlimb4 hnn hT4 hR hv hN hup hI hk c) ⟨hG, rfl⟩
        · exact okE (fun κ z M ll fr kn hz hR => c_limb8 hz hnn hT4 hR hv hN hup hI hk c) (fun κ z B M hR hF => c_rlimb8 hnn hT4 hR hv hN hup hI hk c) ⟨hG, rfl⟩
        · exact okE (fun κ z M ll fr kn hz hR => c_limb12 hz hnn hT4 hR hv hN hup hI hk c) (fun κ z B M hR hF => c_rlimb12 hnn hT4 hR hv hN hup hI hk c) ⟨hG, rfl⟩
theorem k_find {F : by_L} {v pl : Int32} {iD : Int64} : okF Value.int F xX11_find xX12_find 1 4 [.int v, .long iD, .int pl] := by
  intro H hG hq
  have hnn := hG.2.2.2.1
  have hT4 := hG.2.1
  have hX := hG.1
  rcases i_sp v (n := (hoN H).length) (by omega) with hv | ⟨v, hv, rfl⟩
  · exact okE (fun κ z M ll fr kn hz hR => c_findN hz hnn hT4 hR hv) (fun κ z B M hR hF => c_rfindN hnn hT4 hR hv) ⟨hG, rfl⟩
  obtain ⟨N, hN⟩ : ∃ N, ndL (hoN H) v = N := ⟨_, rfl⟩
  have hI : ksI N.1 := by rw [← hN]; exact hX.1 v hv
  have hb : bkL (ksB N.1) 0 = fiB F := by rw [← hN]; exact hG.2.2.1 v hv
  have hbp := hI.1.p hI.2.1
  have hlb := hbp.1
  cases hup : N.2.1 with
  | false =>
    exact okE (fun κ z M ll fr kn hz hR => c_findDw hz hnn hT4 hR hv hN hup) (fun κ z B M hR hF => c_rfindDw hnn hT4 hR hv hN hup) ⟨hG, rfl⟩
  | true =>
    exact okE (fun κ z M ll fr kn hz hR => c_find hz hnn hT4 hR hv hN hup hI) (fun κ z B M hR hF => c_rfind hnn hT4 hR hv hN hup hI) ⟨hG, rfl⟩
theorem k_spend {F : by_L} {v i : Int32} {sd : Int64} : okF Value.int F xX11_spend xX12_spend 1 4 [.int v, .int i, .long sd] := by
  intro H hG hq
  have hnn := hG.2.2.2.1
  have hT4 := hG.2.1
  have hX := hG.1
  rcases i_sp v (n := (hoN H).length) (by omega) with hv | ⟨v, hv, rfl⟩
  · exact okE (fun κ z M ll fr kn hz hR => c_spendN hz hnn hT4 hR hv) (fun κ z B M hR hF => c_rspendN hnn hT4 hR hv) ⟨hG, rfl⟩
  obtain ⟨N, hN⟩ : ∃ N, ndL (hoN H) v = N := ⟨_, rfl⟩
  have hI : ksI N.1 := by rw [← hN]; exact hX.1 v hv
  have hb : bkL (ksB N.1) 0 = fiB F := by rw [← hN]; exact hG.2.2.1 v hv
  have hbp := hI.1.p hI.2.1
  have hlb := hbp.1
  cases hup : N.2.1 with
  | false =>
    exact okE (fun κ z M ll fr kn hz hR => c_spendD hz hnn hT4 hR hv hN hup) (fun κ z B M hR hF => c_rspendD hnn hT4 hR hv hN hup) ⟨hG, rfl⟩
  | true =>
    have hcl := (hbp.2.2.2.2.2.2.1 (ksT N.1) hI.2.1).1
    rcases i_sp i (n := (coAt (ksB N.1) (enB (ksB N.1)) (ksT N.1)).length) (by omega) with hi | ⟨i, hi, rfl⟩
    · exact okE (fun κ z M ll fr kn hz hR => c_spendI hz hnn hT4 hR hv hN hup hI hi) (fun κ z B M hR hF => c_rspendI hnn hT4 hR hv hN hup hI hi) ⟨hG, rfl⟩
    · exact okE (fun κ z M ll fr kn hz hR => c_spend hz hnn hT4 hR hv hN hup hI hi) (fun κ z B M hR hF => c_rspend hnn hT4 hR hv hN hup hI hi) ⟨hG.d (ifA_len hG.2.2.2.2.1) hG.2.2.2.2.2, rfl⟩
theorem k_unspent {F : by_L} {v i wh : Int32} : okF Value.long F xX11_unspent xX12_unspent 1 4 [.int v, .int i, .int wh] := by
  intro H hG hq
  have hnn := hG.2.2.2.1
  have hT4 := hG.2.1
  have hX := hG.1
  rcases i_sp v (n := (hoN H).length) (by omega) with hv | ⟨v, hv, rfl⟩
  · exact okE (fun κ z M ll fr kn hz hR => c_unspentN hz hnn hT4 hR hv) (fun κ z B M hR hF => c_runspentN hnn hT4 hR hv) ⟨hG, rfl⟩
  obtain ⟨N, hN⟩ : ∃ N, ndL (hoN H) v = N := ⟨_, rfl⟩
  have hI : ksI N.1 := by rw [← hN]; exact hX.1 v hv
  have hb : bkL (ksB N.1) 0 = fiB F := by rw [← hN]; exact hG.2.2.1 v hv
  have hbp := hI.1.p hI.2.1
  have hlb := hbp.1
  cases hup : N.2.1 with
  | false =>
    exact okE (fun κ z M ll fr kn hz hR => c_unspentD hz hnn hT4 hR hv hN hup) (fun κ z B M hR hF => c_runspentD hnn hT4 hR hv hN hup) ⟨hG, rfl⟩
  | true =>
    have hcl := (hbp.2.2.2.2.2.2.1 (ksT N.1) hI.2.1).1
    rcases i_sl wh (n := 5) (by omega) with hw | ⟨wh, hw, rfl⟩
    · exact okE (fun κ z M ll fr kn hz hR => c_unspentW hz hnn hT4 hR hv hN hup hI hw) (fun κ z B M hR hF => c_runspentW hnn hT4 hR hv hN hup hI hw) ⟨hG, rfl⟩
    · rcases i_sp i (n := (coAt (ksB N.1) (enB (ksB N.1)) (ksT N.1)).length) (by omega) with hi | ⟨i, hi, rfl⟩
      · exact okE (fun κ z M ll fr kn hz hR => c_unspentI hz hnn hT4 hR hv hN hup hI hw hi) (fun κ z B M hR hF => c_runspentI hnn hT4 hR hv hN hup hI hw hi) ⟨hG, rfl⟩
      · rcases (show wh = 0 ∨ wh = 1 ∨ wh = 2 ∨ wh = 3 ∨ wh = 4 ∨ wh = 5 by omega) with rfl | rfl | rfl | rfl | rfl | rfl
        · exact okE (fun κ z M ll fr kn hz hR => c_unspent0 hz hnn hT4 hR hv hN hup hI hi) (fun κ z B M hR hF => c_runspent0 hnn hT4 hR hv hN hup hI hi) ⟨hG, rfl⟩
        · exact okE (fun κ z M ll fr kn hz hR => c_unspent1 hz hnn hT4 hR hv hN hup hI hi) (fun κ z B M hR hF => c_runspent1 hnn hT4 hR hv hN hup hI hi) ⟨hG, rfl⟩
        · exact okE (fun κ z M ll fr kn hz hR => c_unspent2 hz hnn hT4 hR hv hN hup hI hi) (fun κ z B M hR hF => c_runspent2 hnn hT4 hR hv hN hup hI hi) ⟨hG, rfl⟩
        · exact okE (fun κ z M ll fr kn hz hR => c_unspent3 hz hnn hT4 hR hv hN hup hI hi) (fun κ z B M hR hF => c_runspent3 hnn hT4 hR hv hN hup hI hi) ⟨hG, rfl⟩
        · exact okE (fun κ z M ll fr kn hz hR => c_unspent4 hz hnn hT4 hR hv hN hup hI hi) (fun κ z B M hR hF => c_runspent4 hnn hT4 hR hv hN hup hI hi) ⟨hG, rfl⟩
        · exact okE (fun κ z M ll fr kn hz hR => c_unspent5 hz hnn hT4 hR hv hN hup hI hi) (fun κ z B M hR hF => c_runspent5 hnn hT4 hR hv hN hup hI hi) ⟨hG, rfl⟩
theorem k_at {F : by_L} {v h_ : Int32} : okF Value.int F xX11_at xX12_at 2 3 [.int v, .int h_] := by
  intro H hG hq
  have hnn := hG.2.2.2.1
  have hT4 := hG.2.1
  have hX := hG.1
  rcases i_sp v (n := (hoN H).length) (by omega) with hv | ⟨v, hv, rfl⟩
  · exact okE (fun κ z M ll fr kn hz hR => c_atN hz hnn hT4 hR hv) (fun κ z B M hR hF => c_ratN hnn hT4 hR hv) ⟨hG, rfl⟩
  obtain ⟨N, hN⟩ : ∃ N, ndL (hoN H) v = N := ⟨_, rfl⟩
  have hI : ksI N.1 := by rw [← hN]; exact hX.1 v hv
  have hb : bkL (ksB N.1) 0 = fiB F := by rw [← hN]; exact hG.2.2.1 v hv
  have hbp := hI.1.p hI.2.1
  have hlb := hbp.1
  cases hup : N.2.1 with
  | false =>
    exact okE (fun κ z M ll fr kn hz hR => c_atD hz hnn hT4 hR hv hN hup) (fun κ z B M hR hF => c_ratD hnn hT4 hR hv hN hup) ⟨hG, rfl⟩
  | true =>
    have ht5 := hI.2.1
    have hht := hbp.2.2.1.ht (k := ksT N.1) (by have q := hI.2.1; have r := hbp.2.1; omega)
    rcases i_sl h_ (n := eH (enB (ksB N.1)) (ksT N.1)) (by omega) with hh | ⟨h_, hh, rfl⟩
    · exact okE (fun κ z M ll fr kn hz hR => c_atH hz hnn hT4 hR hv hN hup hI hh) (fun κ z B M hR hF => c_ratH hnn hT4 hR hv hN hup hI hh) ⟨hG, rfl⟩
    · exact okE (fun κ z M ll fr kn hz hR => c_at hz hnn hT4 hR hv hN hup hI hh) (fun κ z B M hR hF => c_rat hnn hT4 hR hv hN hup hI hh) ⟨hG, rfl⟩
theorem k_due {F : by_L} {v wh : Int32} : okF Value.int F xX11_due xX12_due 5 5 [.int v, .int wh] := by
  intro H hG hq
  have hnn := hG.2.2.2.1
  have hT4 := hG.2.1
  have hX := hG.1
  rcases i_sp v (n := (hoN H).length) (by omega) with hv | ⟨v, hv, rfl⟩
  · exact okE (fun κ z M ll fr kn hz hR => c_dueN hz hnn hT4 hR hv) (fun κ z B M hR hF => c_rdueN hnn hT4 hR hv) ⟨hG, rfl⟩
  obtain ⟨N, hN⟩ : ∃ N, ndL (hoN H) v = N := ⟨_, rfl⟩
  have hI : ksI N.1 := by rw [← hN]; exact hX.1 v hv
  have hb : bkL (ksB N.1) 0 = fiB F := by rw [← hN]; exact hG.2.2.1 v hv
  have hbp := hI.1.p hI.2.1
  have hlb := hbp.1
  rcases i_sl wh (n := 2) (by omega) with hw | ⟨wh, hw, rfl⟩
  · exact okE (fun κ z M ll fr kn hz hR => c_dueW hz hnn hT4 hR hv hN hw) (fun κ z B M hR hF => c_rdueW hnn hT4 hR hv hN hw) ⟨hG, rfl⟩
  · cases hup : N.2.1 with
    | false =>
      exact okE (fun κ z M ll fr kn hz hR => c_dueD hz hnn hT4 hR hv hN hw hup) (fun κ z B M hR hF => c_rdueD hnn hT4 hR hv hN hw hup) ⟨hG, rfl⟩
    | true =>
      rcases (show wh = 0 ∨ wh = 1 ∨ wh = 2 by omega) with rfl | rfl | rfl
      · exact okE (fun κ z M ll fr kn hz hR => c_due0 hz hnn hT4 hR hv hN hup hI) (fun κ z B M hR hF => c_rdue0 hnn hT4 hR hv hN hup hI) ⟨hG, rfl⟩
      · exact okE (fun κ z M ll fr kn hz hR => c_due1 hz hnn hT4 hR hv hN hup hI) (fun κ z B M hR hF => c_rdue1 hnn hT4 hR hv hN hup hI) ⟨hG, rfl⟩
      · exact okE (fun κ z M ll fr kn hz hR => c_due2 hz hnn hT4 hR hv hN hup hI) (fun κ z B M hR hF => c_rdue2 hnn hT4 hR hv hN hup hI) ⟨hG, rfl⟩
theorem k_pooled {F : by_L} {v i wh : Int32} : okF Value.long F xX11_pooled xX12_pooled 1 1 [.int v, .int i, .int wh] := by
  intro H hG hq
  have hnn := hG.2.2.2.1
  have hT4 := hG.2.1
  have hX := hG.1
  rcases i_sp v (n := (hoN H).length) (by omega) with hv | ⟨v, hv, rfl⟩
  · exact okE (fun κ z M ll fr kn hz hR => c_pooledN hz hnn hT4 hR hv) (fun κ z B M hR hF => c_rpooledN hnn hT4 hR hv) ⟨hG, rfl⟩
  obtain ⟨N, hN⟩ : ∃ N, ndL (hoN H) v = N := ⟨_, rfl⟩
  have hI : ksI N.1 := by rw [← hN]; exact hX.1 v hv
  have hb : bkL (ksB N.1) 0 = fiB F := by rw [← hN]; exact hG.2.2.1 v hv
  have hbp := hI.1.p hI.2.1
  have hlb := hbp.1
  cases hup : N.2.1 with
  | false =>
    exact okE (fun κ z M ll fr kn hz hR => c_pooledD hz hnn hT4 hR hv hN hup) (fun κ z B M hR hF => c_rpooledD hnn hT4 hR hv hN hup) ⟨hG, rfl⟩
  | true =>
    have hpl := hI.2.2.2.1.1
    rcases i_sp i (n := (ksP N.1).length) (by omega) with hi | ⟨i, hi, rfl⟩
    · exact okE (fun κ z M ll fr kn hz hR => c_pooledI hz hnn hT4 hR hv hN hup hI hi) (fun κ z B M hR hF => c_rpooledI hnn hT4 hR hv hN hup hI hi) ⟨hG, rfl⟩
    · rcases i_sl wh (n := 2) (by omega) with hw | ⟨wh, hw, rfl⟩
      · exact okE (fun κ z M ll fr kn hz hR => c_pooledW hz hnn hT4 hR hv hN hup hI hi hw) (fun κ z B M hR hF => c_rpooledW hnn hT4 hR hv hN hup hI hi hw) ⟨hG, rfl⟩
      · rcases (show wh = 0 ∨ wh = 1 ∨ wh = 2 by omega) with rfl | rfl | rfl
        · exact okE (fun κ z M ll fr kn hz hR => c_pooled0 hz hnn hT4 hR hv hN hup hI hi) (fun κ z B M hR hF => c_rpooled0 hnn hT4 hR hv hN hup hI hi) ⟨hG, rfl⟩
        · exact okE (fun κ z M ll fr kn hz hR => c_pooled1 hz hnn hT4 hR hv hN hup hI hi) (fun κ z B M hR hF => c_rpooled1 hnn hT4 hR hv hN hup hI hi) ⟨hG, rfl⟩
        · exact okE (fun κ z M ll fr kn hz hR => c_pooled2 hz hnn hT4 hR hv hN hup hI hi) (fun κ z B M hR hF => c_rpooled2 hnn hT4 hR hv hN hup hI hi) ⟨hG, rfl⟩
theorem k_balance {F : by_L} {v : Int32} {sd : Int64} : okF Value.long F xX11_balance xX12_balance 3 7 [.int v, .long sd] := by
  intro H hG hq
  have hnn := hG.2.2.2.1
  have hT4 := hG.2.1
  have hX := hG.1
  rcases i_sp v (n := (hoN H).length) (by omega) with hv | ⟨v, hv, rfl⟩
  · exact okE (fun κ z M ll fr kn hz hR => c_balanceN hz hnn hT4 hR hv) (fun κ z B M hR hF => c_rbalanceN hnn hT4 hR hv) ⟨hG, rfl⟩
  obtain ⟨N, hN⟩ : ∃ N, ndL (hoN H) v = N := ⟨_, rfl⟩
  have hI : ksI N.1 := by rw [← hN]; exact hX.1 v hv
  have hb : bkL (ksB N.1) 0 = fiB F := by rw [← hN]; exact hG.2.2.1 v hv
  have hbp := hI.1.p hI.2.1
  have hlb := hbp.1
  cases hup : N.2.1 with
  | false =>
    exact okE (fun κ z M ll fr kn hz hR => c_balanceD hz hnn hT4 hR hv hN hup) (fun κ z B M hR hF => c_rbalanceD hnn hT4 hR hv hN hup) ⟨hG, rfl⟩
  | true =>
    exact okE (fun κ z M ll fr kn hz hR => c_balance hz hnn hT4 hR hv hN hup hI) (fun κ z B M hR hF => c_rbalance hnn hT4 hR hv hN hup hI) ⟨hG, rfl⟩
theorem k_take {F : by_L} {v k : Int32} : okF Value.int F xX11_take xX12_take 2 2 [.int v, .int k] := by
  intro H hG hq
  have hnn := hG.2.2.2.1
  have hT4 := hG.2.1
  have hX := hG.1
  rcases i_sp v (n := (hoN H).length) (by omega) with hv | ⟨v, hv, rfl⟩
  · exact okE (fun κ z M ll fr kn hz hR => c_takeN hz hnn hT4 hR hv) (fun κ z B M hR hF => c_rtakeN hnn hT4 hR hv) ⟨hG, rfl⟩
  obtain ⟨N, hN⟩ : ∃ N, ndL (hoN H) v = N := ⟨_, rfl⟩
  have hI : ksI N.1 := by rw [← hN]; exact hX.1 v hv
  have hb : bkL (ksB N.1) 0 = fiB F := by rw [← hN]; exact hG.2.2.1 v hv
  have hbp := hI.1.p hI.2.1
  have hlb := hbp.1
  cases hup : N.2.1 with
  | false =>
    exact okE (fun κ z M ll fr kn hz hR => c_takeD hz hnn hT4 hR hv hN hup) (fun κ z B M hR hF => c_rtakeD hnn hT4 hR hv hN hup) ⟨hG, rfl⟩
  | true =>
    rcases i_sp k (n := (ksB N.1).length) (by omega) with hk | ⟨k, hk, rfl⟩
    · exact okE (fun κ z M ll fr kn hz hR => c_takeK hz hnn hT4 hR hv hN hup hI hk) (fun κ z B M hR hF => c_rtakeK hnn hT4 hR hv hN hup hI hk) ⟨hG, rfl⟩
    · exact okE (fun κ z M ll fr kn hz hR => c_take hz hnn hT4 hR hv hN hup hI hk) (fun κ z B M hR hF => c_rtake hnn hT4 hR hv hN hup hI hk) ⟨hG.t (by have q := (hbp.2.2.2.1 k hk).len; omega), rfl⟩
theorem k_assemble {F : by_L} {v tm : Int32} {sd : Int64} : okF Value.int F xX11_assemble xX12_assemble 6 8 [.int v, .long sd, .int tm] := by
  intro H hG hq
  have hnn := hG.2.2.2.1
  have hT4 := hG.2.1
  have hX := hG.1
  rcases i_sp v (n := (hoN H).length) (by omega) with hv | ⟨v, hv, rfl⟩
  · exact okE (fun κ z M ll fr kn hz hR => c_assembleN hz hnn hT4 hR hv) (fun κ z B M hR hF => c_rassembleN hnn hT4 hR hv) ⟨hG, rfl⟩
  obtain ⟨N, hN⟩ : ∃ N, ndL (hoN H) v = N := ⟨_, rfl⟩
  have hI : ksI N.1 := by rw [← hN]; exact hX.1 v hv
  have hb : bkL (ksB N.1) 0 = fiB F := by rw [← hN]; exact hG.2.2.1 v hv
  have hbp := hI.1.p hI.2.1
  have hlb := hbp.1
  cases hup : N.2.1 with
  | false =>
    exact okE (fun κ z M ll fr kn hz hR => c_assembleD hz hnn hT4 hR hv hN hup) (fun κ z B M hR hF => c_rassembleD hnn hT4 hR hv hN hup) ⟨hG, rfl⟩
  | true =>
    have hxl := cgX_len hI.2.2.2.1 (cgN (ksP N.1)) (Nat.min_le_right _ _)
    have hn7 : cgN (ksP N.1) ≤ 7 := Nat.min_le_left _ _
    have hal : (asN N tm sd).length = 103 + (cgX (ksP N.1) (cgN (ksP N.1))).length := asT_len _ _ _ _ _ _ _ _
    by_cases htm : midE (enB (ksB N.1)) (ksT N.1) < tm
    · exact okE (fun κ z M ll fr kn hz hR => c_asm hz hnn hT4 hR hv hN hup hI htm) (fun κ z B M hR hF => c_rasm hnn hT4 hR hv hN hup hI htm) ⟨hG.t (by rw [rpS_len, hal]; omega), rfl⟩
    · exact okE (fun κ z M ll fr kn hz hR => c_asmB hz hnn hT4 hR hv hN hup hI htm) (fun κ z B M hR hF => c_rasmB hnn hT4 hR hv hN hup hI htm) ⟨hG, rfl⟩
theorem k_judge {F : by_L} {v kd : Int32} : okF Value.int F xX11_judge xX12_judge 6 10 [.int v, .int kd] := by
  intro H hG hq
  have hnn := hG.2.2.2.1
  have hT4 := hG.2.1
  have hX := hG.1
  by_cases h5 : kd = nI 5
  · subst h5
    rcases i_sp v (n := (hoN H).length) (by omega) with hv | ⟨v, hv, rfl⟩
    · exact okE (fun κ z M ll fr kn hz hR => c_judgeN hz hnn hT4 hR hv) (fun κ z B M hR hF => c_rjudgeN5 hnn hT4 hR hv) ⟨hG, rfl⟩
    obtain ⟨N, hN⟩ : ∃ N, ndL (hoN H) v = N := ⟨_, rfl⟩
    have hI : ksI N.1 := by rw [← hN]; exact hX.1 v hv
    have hb : bkL (ksB N.1) 0 = fiB F := by rw [← hN]; exact hG.2.2.1 v hv
    have hbp := hI.1.p hI.2.1
    have hlb := hbp.1
    cases hup : N.2.1 with
    | false =>
      exact okE (fun κ z M ll fr kn hz hR => c_judgeD5 hz hnn hT4 hR hv hN hup) (fun κ z B M hR hF => c_rjudgeD5 hnn hT4 hR hv hN hup) ⟨hG, rfl⟩
    | true =>
      exact okE (fun κ z M ll fr kn hz hR => c_judge5 hz hnn hT4 hR hv hN hup hI) (fun κ z B M hR hF => c_rjudge5 hnn hT4 hR hv hN hup hI) ⟨hG, rfl⟩
  by_cases h6 : kd = nI 6
  · subst h6
    rcases i_sp v (n := (hoN H).length) (by omega) with hv | ⟨v, hv, rfl⟩
    · exact okE (fun κ z M ll fr kn hz hR => c_judgeN hz hnn hT4 hR hv) (fun κ z B M hR hF => c_rjudgeN6 hnn hT4 hR hv) ⟨hG, rfl⟩
    obtain ⟨N, hN⟩ : ∃ N, ndL (hoN H) v = N := ⟨_, rfl⟩
    have hI : ksI N.1 := by rw [← hN]; exact hX.1 v hv
    have hb : bkL (ksB N.1) 0 = fiB F := by rw [← hN]; exact hG.2.2.1 v hv
    have hbp := hI.1.p hI.2.1
    have hlb := hbp.1
    cases hup : N.2.1 with
    | false =>
      exact okE (fun κ z M ll fr kn hz hR => c_judgeD6 hz hnn hT4 hR hv hN hup) (fun κ z B M hR hF => c_rjudgeD6 hnn hT4 hR hv hN hup) ⟨hG, rfl⟩
    | true =>
      exact okE (fun κ z M ll fr kn hz hR => c_judge6 hz hnn hT4 hR hv hN hup hI) (fun κ z B M hR hF => c_rjudge6 hnn hT4 hR hv hN hup hI) ⟨hG, rfl⟩
  rcases i_sp v (n := (hoN H).length) (by omega) with hv | ⟨v, hv, rfl⟩
  · exact okE (fun κ z M ll fr kn hz hR => c_judgeN hz hnn hT4 hR hv) (fun κ z B M hR hF => c_rjudgeK hnn hT4 hR h5 h6) ⟨hG, rfl⟩
  exact okE (fun κ z M ll fr kn hz hR => c_judgeK hz hnn hT4 hR hv rfl h5 h6) (fun κ z B M hR hF => c_rjudgeK hnn hT4 hR h5 h6) ⟨hG, rfl⟩
theorem k_give {F : by_L} {v kd : Int32} : okF Value.int F xX11_give xX12_give 17 24 [.int v, .int kd] := by
  intro H hG hq
  have hnn := hG.2.2.2.1
  have hT4 := hG.2.1
  have hX := hG.1
  by_cases h5 : kd = nI 5
  · subst h5
    rcases i_sp v (n := (hoN H).length) (by omega) with hv | ⟨v, hv, rfl⟩
    · exact okE (fun κ z M ll fr kn hz hR => c_giveN hz hnn hT4 hR hv) (fun κ z B M hR hF => c_rgiveN5 hnn hT4 hR hv) ⟨hG, rfl⟩
    obtain ⟨N, hN⟩ : ∃ N, ndL (hoN H) v = N := ⟨_, rfl⟩
    have hI : ksI N.1 := by rw [← hN]; exact hX.1 v hv
    have hb : bkL (ksB N.1) 0 = fiB F := by rw [← hN]; exact hG.2.2.1 v hv
    have hbp := hI.1.p hI.2.1
    have hlb := hbp.1
    cases hup : N.2.1 with
    | false =>
      exact okE (fun κ z M ll fr kn hz hR => c_giveD5 hz hnn hT4 hR hv hN hup) (fun κ z B M hR hF => c_rgiveD5 hnn hT4 hR hv hN hup) ⟨hG, rfl⟩
    | true =>
      exact okE (fun κ z M ll fr kn hz hR => c_give5 hz hnn hT4 hR hv hN hup hI) (fun κ z B M hR hF => c_rgive5 hnn hT4 hR hv hN hup hI hX) (hG.g hv hN (Or.inl rfl))
  by_cases h6 : kd = nI 6
  · subst h6
    rcases i_sp v (n := (hoN H).length) (by omega) with hv | ⟨v, hv, rfl⟩
    · exact okE (fun κ z M ll fr kn hz hR => c_giveN hz hnn hT4 hR hv) (fun κ z B M hR hF => c_rgiveN6 hnn hT4 hR hv) ⟨hG, rfl⟩
    obtain ⟨N, hN⟩ : ∃ N, ndL (hoN H) v = N := ⟨_, rfl⟩
    have hI : ksI N.1 := by rw [← hN]; exact hX.1 v hv
    have hb : bkL (ksB N.1) 0 = fiB F := by rw [← hN]; exact hG.2.2.1 v hv
    have hbp := hI.1.p hI.2.1
    have hlb := hbp.1
    cases hup : N.2.1 with
    | false =>
      exact okE (fun κ z M ll fr kn hz hR => c_giveD6 hz hnn hT4 hR hv hN hup) (fun κ z B M hR hF => c_rgiveD6 hnn hT4 hR hv hN hup) ⟨hG, rfl⟩
    | true =>
      exact okE (fun κ z M ll fr kn hz hR => c_give6 hz hnn hT4 hR hv hN hup hI) (fun κ z B M hR hF => c_rgive6 hnn hT4 hR hv hN hup hI hX) (hG.g hv hN (Or.inr rfl))
  rcases i_sp v (n := (hoN H).length) (by omega) with hv | ⟨v, hv, rfl⟩
  · exact okE (fun κ z M ll fr kn hz hR => c_giveN hz hnn hT4 hR hv) (fun κ z B M hR hF => c_rgiveK hnn hT4 hR h5 h6) ⟨hG, rfl⟩
  exact okE (fun κ z M ll fr kn hz hR => c_giveK hz hnn hT4 hR hv rfl h5 h6) (fun κ z B M hR hF => c_rgiveK hnn hT4 hR h5 h6) ⟨hG, rfl⟩
