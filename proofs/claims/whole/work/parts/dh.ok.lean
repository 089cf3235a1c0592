/-! each call: class and reference answer alike, and the house behind it is one house -/
def okF {α : Type} (f : α → Value) (F : by_L) (xc xr : hz_X) (dc dr : Nat) (as : List Value) : Prop := ∀ H, hoG F H → (hoQ H).1.length ≤ 200 → ∃ (a : α) (H2 : ho_H), (hoG F H2 ∧ (hoN H2).length = (hoN H).length) ∧ (∀ κ z M ll fr kn, 63 + 34 * (hoN H).length ≤ z → hcR M z H ll fr kn → hz_Mt κ xc dc 0 0 (.ref 8 :: as) z M (hcP M z H (f a) H2)) ∧ ∀ κ z B M, hmR M z B H → fiM M B F → hz_Mt κ xr dr 0 0 (.ref B :: as) z M (hmP M z B (f a) H2)
theorem okE {α : Type} {f : α → Value} {F : by_L} {xc xr : hz_X} {dc dr : Nat} {as : List Value} {H : ho_H} {a : α} {H2 : ho_H} (hc : ∀ κ z M ll fr kn, 63 + 34 * (hoN H).length ≤ z → hcR M z H ll fr kn → hz_Mt κ xc dc 0 0 (.ref 8 :: as) z M (hcP M z H (f a) H2)) (hr : ∀ κ z B M, hmR M z B H → fiM M B F → hz_Mt κ xr dr 0 0 (.ref B :: as) z M (hmP M z B (f a) H2)) (hi : hoG F H2 ∧ (hoN H2).length = (hoN H).length) : ∃ (a : α) (H2 : ho_H), (hoG F H2 ∧ (hoN H2).length = (hoN H).length) ∧ (∀ κ z M ll fr kn, 63 + 34 * (hoN H).length ≤ z → hcR M z H ll fr kn → hz_Mt κ xc dc 0 0 (.ref 8 :: as) z M (hcP M z H (f a) H2)) ∧ ∀ κ z B M, hmR M z B H → fiM M B F → hz_Mt κ xr dr 0 0 (.ref B :: as) z M (hmP M z B (f a) H2) := ⟨a, H2, hi, hc, hr⟩
theorem ifA_len {α : Type} {l : List α} {x : α} (h : l.length ≤ 4) : (if l.length < 4 then l ++ [x] else l).length ≤ 4 := by
  split
  · rw [List.length_append]
    show l.length + 1 ≤ 4
    omega
  · exact h
theorem nI_ij {a b : Nat} (h : nI a = nI b) (ha : a < 2 ^ 31) (hb : b < 2 ^ 31) : a = b := by
  have q := congrArg Int32.toInt h
  rw [nI_toInt ha, nI_toInt hb] at q
  omega
theorem i_no {k : Int32} {n j : Nat} (hk : k < 0 ∨ ¬ k < nI n) (hj : j < n) (hn : n < 2 ^ 31) (e : k = nI j) : False := by
  rw [e, Int32.lt_iff_toInt_lt, Int32.lt_iff_toInt_lt, nI_toInt (by omega), nI_toInt hn] at hk
  have r : (0 : Int32).toInt = 0 := rfl
  omega
theorem k_feed {F : by_L} {a b c d e : Int32} : okF Value.int F xX11_feed xX12_feed 1 1 [.int a, .int b, .int c, .int d, .int e] := by
  intro H hG hq
  have hnn := hG.2.2.2.1
  have hT4 := hG.2.1
  have hX := hG.1
  by_cases hk : (hoT H).length ≤ 3980
  · exact okE (fun κ z M ll fr kn hz hR => c_feed hz hnn hT4 hR hk) (fun κ z B M hR hF => c_rfeed hnn hT4 hR hk) ⟨hG.t (by rw [fdT_len]; omega), rfl⟩
  · exact okE (fun κ z M ll fr kn hz hR => c_feedB hz hnn hT4 hR hk) (fun κ z B M hR hF => c_rfeedB hnn hT4 hR hk) ⟨hG, rfl⟩
theorem k_cut {F : by_L} {k : Int32} : okF Value.int F xX11_cut xX12_cut 0 0 [.int k] := by
  intro H hG hq
  have hnn := hG.2.2.2.1
  have hT4 := hG.2.1
  have hX := hG.1
  rcases i_sl k (n := (hoT H).length) (by omega) with hk | ⟨k, hk, rfl⟩
  · exact okE (fun κ z M ll fr kn hz hR => c_cutB hz hnn hT4 hR hk) (fun κ z B M hR hF => c_rcutB hnn hT4 hR hk) ⟨hG, rfl⟩
  · exact okE (fun κ z M ll fr kn hz hR => c_cut hz hnn hT4 hR hk) (fun κ z B M hR hF => c_rcut hnn hT4 hR hk) ⟨hG.t (by rw [List.length_take]; omega), rfl⟩
theorem k_turn {F : by_L} {i b : Int32} : okF Value.int F xX11_turn xX12_turn 0 0 [.int i, .int b] := by
  intro H hG hq
  have hnn := hG.2.2.2.1
  have hT4 := hG.2.1
  have hX := hG.1
  rcases i_sp i (n := (hoT H).length) (by omega) with hk | ⟨i, hk, rfl⟩
  · exact okE (fun κ z M ll fr kn hz hR => c_turnB hz hnn hT4 hR hk) (fun κ z B M hR hF => c_rturnB hnn hT4 hR hk) ⟨hG, rfl⟩
  · exact okE (fun κ z M ll fr kn hz hR => c_turn hz hnn hT4 hR hk) (fun κ z B M hR hF => c_rturn hnn hT4 hR hk) ⟨hG.t (by rw [List.length_set]; exact hT4), rfl⟩
theorem k_hash {F : by_L} {t k : Int32} : okF Value.long F xX11_hash xX12_hash 3 4 [.int t, .int k] := by
  intro H hG hq
  have hnn := hG.2.2.2.1
  have hT4 := hG.2.1
  have hX := hG.1
  rcases i_sl k (n := 3) (by omega) with hk | ⟨k, hk, rfl⟩
  · exact okE (fun κ z M ll fr kn hz hR => c_hashB hz hnn hT4 hR (hk.imp id Int32.not_le.mp)) (fun κ z B M hR hF => c_rhashB hnn hT4 hR hk) ⟨hG, rfl⟩
  · exact okE (fun κ z M ll fr kn hz hR => c_hash hz hnn hT4 hR (show k < 4 by omega)) (fun κ z B M hR hF => c_rhash hnn hT4 hR (show k < 4 by omega)) ⟨hG, rfl⟩
theorem k_part {F : by_L} {sd : Int64} {i n : Int32} : okF Value.long F xX11_part xX12_part 3 6 [.long sd, .int i, .int n] := by
  intro H hG hq
  have hnn := hG.2.2.2.1
  have hT4 := hG.2.1
  have hX := hG.1
  rcases i_sl i (n := 7) (by omega) with hi | ⟨i, hi, rfl⟩
  · exact okE (fun κ z M ll fr kn hz hR => c_partBd hz hnn hT4 hR (hi.elim Or.inl (fun q => Or.inr (Or.inl (Int32.not_le.mp q))))) (fun κ z B M hR hF => c_rpartBd hnn hT4 hR (hi.elim Or.inl (fun q => Or.inr (Or.inl (Int32.not_le.mp q))))) ⟨hG, rfl⟩
  · rcases i_sl n (n := 15) (by omega) with hn | ⟨n, hn, rfl⟩
    · exact okE (fun κ z M ll fr kn hz hR => c_partBd hz hnn hT4 hR (Or.inr (Or.inr hn))) (fun κ z B M hR hF => c_rpartBd hnn hT4 hR (Or.inr (Or.inr hn))) ⟨hG, rfl⟩
    · exact okE (fun κ z M ll fr kn hz hR => c_part hz hnn hT4 hR hi hn) (fun κ z B M hR hF => c_rpart hnn hT4 hR hi hn) ⟨hG, rfl⟩
theorem k_address {F : by_L} {sd : Int64} : okF Value.long F xX11_address xX12_address 3 7 [.long sd] := by
  intro H hG hq
  have hnn := hG.2.2.2.1
  have hT4 := hG.2.1
  have hX := hG.1
  exact okE (fun κ z M ll fr kn hz hR => c_addr hz hnn hT4 hR ) (fun κ z B M hR hF => c_raddr hnn hT4 hR ) ⟨hG, rfl⟩
theorem k_begin {F : by_L}  : okF Value.int F xX11_begin xX12_begin 0 0 [] := by
  intro H hG hq
  have hnn := hG.2.2.2.1
  have hT4 := hG.2.1
  have hX := hG.1
  exact okE (fun κ z M ll fr kn hz hR => c_begin hz hnn hT4 hR ) (fun κ z B M hR hF => c_rbegin hnn hT4 hR ) ⟨hG.d (Nat.zero_le _) (Nat.zero_le _), rfl⟩
theorem k_input {F : by_L} {iD sd : Int64} {p : Int32} : okF Value.int F xX11_input xX12_input 1 1 [.long iD, .int p, .long sd] := by
  intro H hG hq
  have hnn := hG.2.2.2.1
  have hT4 := hG.2.1
  have hX := hG.1
  rcases i_sl p (n := 3) (by omega) with hp | ⟨p, hp, rfl⟩
  · exact okE (fun κ z M ll fr kn hz hR => c_inputB hz hnn hT4 hR (by rw [i_lt_s (n := 3) (by decide)]; exact hp)) (fun κ z B M hR hF => c_rinputB hnn hT4 hR hp) ⟨hG, rfl⟩
  · exact okE (fun κ z M ll fr kn hz hR => c_input hz hnn hT4 hR (show p < 4 by omega)) (fun κ z B M hR hF => c_rinput hnn hT4 hR (show p < 4 by omega)) ⟨hG.d (ifA_len hG.2.2.2.2.1) hG.2.2.2.2.2, rfl⟩
theorem k_output {F : by_L} {am ad : Int64} : okF Value.int F xX11_output xX12_output 1 0 [.long am, .long ad] := by
  intro H hG hq
  have hnn := hG.2.2.2.1
  have hT4 := hG.2.1
  have hX := hG.1
  exact okE (fun κ z M ll fr kn hz hR => c_output hz hnn hT4 hR ) (fun κ z B M hR hF => c_rout hnn hT4 hR ) ⟨hG.d hG.2.2.2.2.1 (ifA_len hG.2.2.2.2.2), rfl⟩
theorem k_pay {F : by_L} {am sd : Int64} : okF Value.int F xX11_pay xX12_pay 3 7 [.long am, .long sd] := by
  intro H hG hq
  have hnn := hG.2.2.2.1
  have hT4 := hG.2.1
  have hX := hG.1
  exact okE (fun κ z M ll fr kn hz hR => c_pay hz hnn hT4 hR ) (fun κ z B M hR hF => c_rpay hnn hT4 hR ) ⟨hG.d hG.2.2.2.2.1 (ifA_len hG.2.2.2.2.2), rfl⟩
theorem k_sign {F : by_L} {h : Int32} : okF Value.int F xX11_sign xX12_sign 3 6 [.int h] := by
  intro H hG hq
  have hnn := hG.2.2.2.1
  have hT4 := hG.2.1
  have hX := hG.1
  by_cases hu : (hoU H).length = 0
  · exact okE (fun κ z M ll fr kn hz hR => c_signB hz hnn hT4 hR (Or.inl hu)) (fun κ z B M hR hF => c_rsignB hnn hT4 hR (Or.inl hu)) ⟨hG, rfl⟩
  by_cases hi : (hoI H).length = 0 ∧ h < 0
  · exact okE (fun κ z M ll fr kn hz hR => c_signB hz hnn hT4 hR (Or.inr hi)) (fun κ z B M hR hF => c_rsignB hnn hT4 hR (Or.inr hi)) ⟨hG, rfl⟩
  have q := sgL_b hG.2.2.2.2.1 hG.2.2.2.2.2
  exact okE (fun κ z M ll fr kn hz hR => c_sign hz hnn hT4 hR hu hi) (fun κ z B M hR hF => c_rsign hnn hT4 hR hu hi) ⟨hG.t (by rw [sgT_len]; omega), rfl⟩
theorem k_root {F : by_L}  : okF Value.int F xX11_root xX12_root 5 5 [] := by
  intro H hG hq
  have hnn := hG.2.2.2.1
  have hT4 := hG.2.1
  have hX := hG.1
  exact okE (fun κ z M ll fr kn hz hR => c_root hz hnn hT4 hR ) (fun κ z B M hR hF => c_rroot hnn hT4 hR ) ⟨hG.t (by rw [roT_len]; exact hT4), rfl⟩
theorem k_solve {F : by_L} {nn : Int64} {n : Int32} : okF Value.int F xX11_solve xX12_solve 4 4 [.long nn, .int n] := by
  intro H hG hq
  have hnn := hG.2.2.2.1
  have hT4 := hG.2.1
  have hX := hG.1
  rcases i_s1 n (n := 2000) (by omega) with hn | ⟨n, hn1, hn2, rfl⟩
  · exact okE (fun κ z M ll fr kn hz hR => c_solveB1 hz hnn hT4 hR (hn.imp id Int32.not_le.mp)) (fun κ z B M hR hF => c_rsolveB1 hnn hT4 hR (hn.imp id Int32.not_le.mp)) ⟨hG, rfl⟩
  · by_cases hL : 80 ≤ (hoT H).length
    · cases ht : tgR (bn_int (lf (hoT H)) 68) with
      | false => exact okE (fun κ z M ll fr kn hz hR => c_solveB3 hz hnn hT4 hR hn1 hn2 hL ht) (fun κ z B M hR hF => c_rsolveB3 hnn hT4 hR hn1 hn2 hL ht) ⟨hG, rfl⟩
      | true =>
        by_cases he : nI n ≤ hoE H
        · exact okE (fun κ z M ll fr kn hz hR => c_solve hz hnn hT4 hR hn1 hn2 hL ht he) (fun κ z B M hR hF => c_rsolve hnn hT4 hR hn1 hn2 hL ht he) ⟨hG.t (by rw [slR_len]; exact hT4), rfl⟩
        · exact okE (fun κ z M ll fr kn hz hR => c_solveB4 hz hnn hT4 hR hn1 hn2 hL ht he) (fun κ z B M hR hF => c_rsolveB4 hnn hT4 hR hn1 hn2 hL ht he) ⟨hG, rfl⟩
    · exact okE (fun κ z M ll fr kn hz hR => c_solveB2 hz hnn hT4 hR hn1 hn2 hL) (fun κ z B M hR hF => c_rsolveB2 hnn hT4 hR hn1 hn2 hL) ⟨hG, rfl⟩
theorem k_link {F : by_L} {a b d : Int32} : okF Value.int F xX11_link xX12_link 2 1 [.int a, .int b, .int d] := by
  intro H hG hq
  have hnn := hG.2.2.2.1
  have hT4 := hG.2.1
  have hX := hG.1
  rcases i_sp a (n := (hoN H).length) (by omega) with ha | ⟨a, ha, rfl⟩
  · exact okE (fun κ z M ll fr kn hz hR => c_linkB1 hz hnn hT4 hR ha) (fun κ z B M hR hF => c_rlinkB1 hnn hT4 hR ha) ⟨hG, rfl⟩
  · rcases i_sp b (n := (hoN H).length) (by omega) with hb | ⟨b, hb, rfl⟩
    · exact okE (fun κ z M ll fr kn hz hR => c_linkB2 hz hnn hT4 hR ha hb) (fun κ z B M hR hF => c_rlinkB2 hnn hT4 hR ha hb) ⟨hG, rfl⟩
    · by_cases hab : a = b
      · exact okE (fun κ z M ll fr kn hz hR => c_linkB3 hz hnn hT4 hR ha hb (Or.inl hab)) (fun κ z B M hR hF => c_rlinkB3 hnn hT4 hR ha hb (Or.inl hab)) ⟨hG, rfl⟩
      rcases i_sl d (n := 9) (by omega) with hd | ⟨d, hd, rfl⟩
      · exact okE (fun κ z M ll fr kn hz hR => c_linkB3 hz hnn hT4 hR ha hb (Or.inr hd)) (fun κ z B M hR hF => c_rlinkB3 hnn hT4 hR ha hb (Or.inr hd)) ⟨hG, rfl⟩
      · exact okE (fun κ z M ll fr kn hz hR => c_link hz hnn hT4 hR ha hb hab hd) (fun κ z B M hR hF => c_rlink hnn hT4 hR ha hb hab hd) ⟨hG.l (dlS_X hX.2.1 hd), rfl⟩
theorem k_post {F : by_L} {a b d : Int32} : okF Value.int F xX11_post xX12_post 4 1 [.int a, .int b, .int d] := by
  intro H hG hq
  have hnn := hG.2.2.2.1
  have hT4 := hG.2.1
  have hX := hG.1
  rcases i_sp a (n := (hoN H).length) (by omega) with ha | ⟨a, ha, rfl⟩
  · exact okE (fun κ z M ll fr kn hz hR => c_postB1 hz hnn hT4 hR ha) (fun κ z B M hR hF => c_rpostB1 hnn hT4 hR ha) ⟨hG, rfl⟩
  · rcases i_sp b (n := (hoN H).length) (by omega) with hb | ⟨b, hb, rfl⟩
    · exact okE (fun κ z M ll fr kn hz hR => c_postB2 hz hnn hT4 hR ha hb) (fun κ z B M hR hF => c_rpostB2 hnn hT4 hR ha hb) ⟨hG, rfl⟩
    · by_cases hab : a = b
      · exact okE (fun κ z M ll fr kn hz hR => c_postB3 hz hnn hT4 hR ha hb (Or.inl hab)) (fun κ z B M hR hF => c_rpostB3 hnn hT4 hR ha hb (Or.inl hab)) ⟨hG, rfl⟩
      rcases i_s1 d (n := 6) (by omega) with hd | ⟨d, hd1, hd2, rfl⟩
      · exact okE (fun κ z M ll fr kn hz hR => c_postB3 hz hnn hT4 hR ha hb (Or.inr hd)) (fun κ z B M hR hF => c_rpostB3 hnn hT4 hR ha hb (Or.inr hd)) ⟨hG, rfl⟩
      · exact okE (fun κ z M ll fr kn hz hR => c_post hz hnn hT4 hR ha hb hab hd1 hd2) (fun κ z B M hR hF => c_rpost hnn hT4 hR ha hb hab hd1 hd2) ⟨(hG.q ((sd1_E ha (Or.inl ⟨b, hb, rfl⟩) hd1 hd2 (hX.2.1 (6 * a + b) (by omega)) hT4).G hX.2.2)).t (Nat.zero_le _), rfl⟩
theorem k_tick {F : by_L} {n : Int32} : okF Value.int F xX11_tick xX12_tick 17 25 [.int n] := by
  intro H hG hq
  have hnn := hG.2.2.2.1
  have hT4 := hG.2.1
  have hX := hG.1
  rcases i_s1 n (n := 64) (by omega) with hn | ⟨n, hn1, hn2, rfl⟩
  · exact ⟨_, _, ⟨hG, rfl⟩, fun κ z M ll fr kn hz hR => (c_tickB hn).weak (fun r z2 M2 h => by obtain ⟨rfl, rfl, rfl⟩ := h; exact hcP.no hR _), fun κ z B M hR hF => c_rtickB hnn hR hX hn⟩
  · exact ⟨_, _, tkN_G n H 0 hG, fun κ z M ll fr kn hz hR => c_tick hz hnn hR hX hn1 hn2, fun κ z B M hR hF => c_rtick hnn hR hX hn1 hn2⟩
theorem k_lose {F : by_L} {k : Int32} : okF Value.int F xX11_lose xX12_lose 3 1 [.int k] := by
  intro H hG hq
  have hnn := hG.2.2.2.1
  have hT4 := hG.2.1
  have hX := hG.1
  rcases i_sp k (n := (hoQ H).1.length) (by omega) with hk | ⟨k, hk, rfl⟩
  · exact ⟨_, _, ⟨hG, rfl⟩, fun κ z M ll fr kn hz hR => (c_loseB hz hnn hR hk).weak (fun r z2 M2 h => by obtain ⟨rfl, rfl, rfl⟩ := h; exact hcP.no hR _), fun κ z B M hR hF => c_rloseB hnn hR hk⟩
  · exact ⟨_, lsQ H k, ⟨hG.q (fun m h9 => hX.2.2 m (List.mem_of_mem_eraseIdx h9)), rfl⟩, fun κ z M ll fr kn hz hR => (c_lose hz hnn hR hk).weak (fun r z2 M2 h => ⟨h.1, h.2.1, h.2.2.1, ll, fr, kn, h.2.2.2⟩), fun κ z B M hR hF => c_rlose hnn hR hk⟩
theorem k_message {F : by_L} {k wh : Int32} : okF Value.int F xX11_message xX12_message 1 0 [.int k, .int wh] := by
  intro H hG hq
  have hnn := hG.2.2.2.1
  have hT4 := hG.2.1
  have hX := hG.1
  rcases i_sp k (n := (hoQ H).1.length) (by omega) with hk | ⟨k, hk, rfl⟩
  · exact okE (fun κ z M ll fr kn hz hR => c_msgB hz hnn hT4 hR hk) (fun κ z B M hR hF => c_rmsgB hnn hT4 hR hk) ⟨hG, rfl⟩
  · rcases i_tI wh (n := 4) (by omega) with hw | ⟨wh, hw, rfl⟩
    · exact okE (fun κ z M ll fr kn hz hR => c_msgW hz hnn hT4 hR hk hw) (fun κ z B M hR hF => c_rmsgW hnn hT4 hR hk hw) ⟨hG, rfl⟩
    · rcases (show wh = 0 ∨ wh = 1 ∨ wh = 2 ∨ wh = 3 ∨ wh = 4 by omega) with rfl | rfl | rfl | rfl | rfl
      · exact okE (fun κ z M ll fr kn hz hR => c_msg0 hz hnn hT4 hR hk) (fun κ z B M hR hF => c_rmsg0 hnn hT4 hR hk) ⟨hG, rfl⟩
      · exact okE (fun κ z M ll fr kn hz hR => c_msg1 hz hnn hT4 hR hk) (fun κ z B M hR hF => c_rmsg1 hnn hT4 hR hk) ⟨hG, rfl⟩
      · exact okE (fun κ z M ll fr kn hz hR => c_msg2 hz hnn hT4 hR hk) (fun κ z B M hR hF => c_rmsg2 hnn hT4 hR hk) ⟨hG, rfl⟩
      · exact okE (fun κ z M ll fr kn hz hR => c_msg3 hz hnn hT4 hR hk) (fun κ z B M hR hF => c_rmsg3 hnn hT4 hR hk) ⟨hG, rfl⟩
      · exact okE (fun κ z M ll fr kn hz hR => c_msg4 hz hnn hT4 hR hk) (fun κ z B M hR hF => c_rmsg4 hnn hT4 hR hk) ⟨hG, rfl⟩
theorem k_messageByte {F : by_L} {k i : Int32} : okF Value.int F xX11_messageByte xX12_messageByte 2 1 [.int k, .int i] := by
  intro H hG hq
  have hnn := hG.2.2.2.1
  have hT4 := hG.2.1
  have hX := hG.1
  rcases i_sp k (n := (hoQ H).1.length) (by omega) with hk | ⟨k, hk, rfl⟩
  · exact okE (fun κ z M ll fr kn hz hR => c_mbyB hz hnn hT4 hR (fun j hj e => (i_no hk hj (by omega) e).elim)) (fun κ z B M hR hF => c_rmbyk hnn hT4 hR hk) ⟨hG, rfl⟩
  · have hml := (hX.2.2 _ (msL_mem hk)).2.2.2
    rcases i_sp i (n := (msL (hoQ H).1 k).2.2.2.2.length) (by omega) with hi | ⟨i, hi, rfl⟩
    · exact okE (fun κ z M ll fr kn hz hR => c_mbyB hz hnn hT4 hR (fun j hj e => by rw [← nI_ij e (by omega) (by omega)]; exact hi)) (fun κ z B M hR hF => c_rmbyi hnn hT4 hR hk hi) ⟨hG, rfl⟩
    · exact okE (fun κ z M ll fr kn hz hR => c_mby hz hnn hT4 hR hk hi) (fun κ z B M hR hF => c_rmby hnn hT4 hR hk hi) ⟨hG, rfl⟩
theorem k_alter {F : by_L} {k i b : Int32} : okF Value.int F xX11_alter xX12_alter 2 1 [.int k, .int i, .int b] := by
  intro H hG hq
  have hnn := hG.2.2.2.1
  have hT4 := hG.2.1
  have hX := hG.1
  rcases i_sp k (n := (hoQ H).1.length) (by omega) with hk | ⟨k, hk, rfl⟩
  · exact okE (fun κ z M ll fr kn hz hR => c_altB hz hnn hT4 hR (fun j hj e => (i_no hk hj (by omega) e).elim)) (fun κ z B M hR hF => c_raltk hnn hT4 hR hk) ⟨hG, rfl⟩
  · have hml := (hX.2.2 _ (msL_mem hk)).2.2.2
    rcases i_sp i (n := (msL (hoQ H).1 k).2.2.2.2.length) (by omega) with hi | ⟨i, hi, rfl⟩
    · exact okE (fun κ z M ll fr kn hz hR => c_altB hz hnn hT4 hR (fun j hj e => by rw [← nI_ij e (by omega) (by omega)]; exact hi)) (fun κ z B M hR hF => c_ralti hnn hT4 hR hk hi) ⟨hG, rfl⟩
    · exact okE (fun κ z M ll fr kn hz hR => c_alt hz hnn hT4 hR hk hi) (fun κ z B M hR hF => c_ralt hnn hT4 hR hk hi) ⟨hG.q (al_G hX.2.2 hk), rfl⟩
theorem k_house {F : by_L} {wh : Int32} : okF Value.int F xX11_house xX12_house 0 0 [.int wh] := by
  intro H hG hq
  have hnn := hG.2.2.2.1
  have hT4 := hG.2.1
  have hX := hG.1
  rcases i_tI wh (n := 8) (by omega) with hw | ⟨wh, hw, rfl⟩
  · exact okE (fun κ z M ll fr kn hz hR => c_houseW hz hnn hT4 hR hw) (fun κ z B M hR hF => c_rhouseW hnn hT4 hR hw) ⟨hG, rfl⟩
  · rcases (show wh = 0 ∨ wh = 1 ∨ wh = 2 ∨ wh = 3 ∨ wh = 4 ∨ wh = 5 ∨ wh = 6 ∨ wh = 7 ∨ wh = 8 by omega) with rfl | rfl | rfl | rfl | rfl | rfl | rfl | rfl | rfl
    · exact okE (fun κ z M ll fr kn hz hR => c_house0 hz hnn hT4 hR ) (fun κ z B M hR hF => c_rhouse0 hnn hT4 hR ) ⟨hG, rfl⟩
    · exact okE (fun κ z M ll fr kn hz hR => c_house1 hz hnn hT4 hR ) (fun κ z B M hR hF => c_rhouse1 hnn hT4 hR ) ⟨hG, rfl⟩
    · exact okE (fun κ z M ll fr kn hz hR => c_house2 hz hnn hT4 hR ) (fun κ z B M hR hF => c_rhouse2 hnn hT4 hR ) ⟨hG, rfl⟩
    · exact okE (fun κ z M ll fr kn hz hR => c_house3 hz hnn hT4 hR ) (fun κ z B M hR hF => c_rhouse3 hnn hT4 hR ) ⟨hG, rfl⟩
    · exact okE (fun κ z M ll fr kn hz hR => c_house4 hz hnn hT4 hR ) (fun κ z B M hR hF => c_rhouse4 hnn hT4 hR ) ⟨hG, rfl⟩
    · exact okE (fun κ z M ll fr kn hz hR => c_house5 hz hnn hT4 hR ) (fun κ z B M hR hF => c_rhouse5 hnn hT4 hR ) ⟨hG, rfl⟩
    · exact okE (fun κ z M ll fr kn hz hR => c_house6 hz hnn hT4 hR ) (fun κ z B M hR hF => c_rhouse6 hnn hT4 hR ) ⟨hG, rfl⟩
    · exact okE (fun κ z M ll fr kn hz hR => c_house7 hz hnn hT4 hR ) (fun κ z B M hR hF => c_rhouse7 hnn hT4 hR ) ⟨hG, rfl⟩
    · exact okE (fun κ z M ll fr kn hz hR => c_house8 hz hnn hT4 hR ) (fun κ z B M hR hF => c_rhouse8 hnn hT4 hR ) ⟨hG, rfl⟩
