/-! give -/
set_option maxHeartbeats 4000000 in
set_option maxRecDepth 100000 in
theorem c_rcv5v {κ : hz_C} {z B nn v : Nat} {now fr : Int32} {dl : Nat → Nat} (hnn : nn ≤ 6) (hvn : v < nn) {d : Nat} (hto : (∃ b, b < 6 ∧ fr = nI b ∧ d = dl (6 * v + b)) ∨ (fr < 0 ∧ d = 0)) {M : hz_M} {S : ks_S} {l : by_L} (hk0 : md_k B M z) (hE : mdE M B) (hmg : mgR M B nn now dl (ksQ S)) (hmn : mnS M B v 1 S (pvI (ksF S)) (ksP S)) (hor : orX (fA M B) v (mkO (ksL S))) (hI : ksI S) (hl4 : l.length ≤ 4000) (h78 : isA (fA M B 78) 0 l) (h92 : fdB M B 92 = some (.int (nI l.length))) : hz_Mt κ xX12_receive 23 0 0 [.ref B, .int (nI v), .int fr, .int (nI 5)] z M (fun r z2 M2 => some (.int (nI (ksJ S l))) = r ∧ rvP M z B nn v now dl (rvS nn dl now v fr d S 5 l) r z2 M2) := by
  refine hz_ent (lo := [(0, .ref B), (1, .int (nI v)), (2, .int fr), (3, .int (nI 5))]) (by decide) (Nat.le_of_ble_eq_true rfl) rfl ?_
  obtain ⟨⟨fs, hO, hF⟩, -, -, h8, hz⟩ := id hk0
  have hv6 : v < 6 := by omega
  refine hz_aloadn (pc := 0) 0 (hz_dec kX12_receive 0 rfl) rfl ?_
  refine hz_get (pc := 1) (v := .ref (B + 22)) (hz_dec kX12_receive 1 rfl) fo_X12_77 hO h8 (by omega) (hF.2 24 (by decide) (by decide)) ?_
  refine hz_iloadn (pc := 4) 1 (hz_dec kX12_receive 2 rfl) rfl ?_
  refine hz_dup2 (pc := 5) (hz_dec kX12_receive 3 rfl) rfl rfl ?_
  refine hz_iald (pc := 6) (j := v) (hz_dec kX12_receive 4 rfl) hE.a22 (by omega) (by omega) rfl (by omega) (by decide) ?_
  refine hz_iconst (pc := 7) (v := nI 1) (hz_dec kX12_receive 5 rfl) (by decide) ?_
  refine hz_iadd (pc := 8) (hz_dec kX12_receive 6 rfl) ?_
  refine hz_iast (pc := 9) (j := v) (hz_dec kX12_receive 7 rfl) hE.a22 (by omega) (by omega) rfl (by omega) (by decide) ?_
  have hm1 : mfr B [] [22] M (va_up M (B + 22) (.inl (0, 6, .inl (upd (fA M B 22) v ((((fA M B 22) v) + (nI (1)))))))) := (mfr.rf ⟨fs, hO, hF⟩).upA (o := 22) rfl (by decide)
  have hE1 : mdE (va_up M (B + 22) (.inl (0, 6, .inl (upd (fA M B 22) v ((((fA M B 22) v) + (nI (1)))))))) B := hE.upA (by decide)
  have hg1 : agV M (va_up M (B + 22) (.inl (0, 6, .inl (upd (fA M B 22) v ((((fA M B 22) v) + (nI (1)))))))) B v := agV.upA (s := 1) agV.rf rfl rfl (fun x hx => upd_o (by omega))
  have e22 : fA (va_up M (B + 22) (.inl (0, 6, .inl (upd (fA M B 22) v ((((fA M B 22) v) + (nI (1)))))))) B 22 v = fA M B 22 v + 1 := by rw [fA_of (va_up_self _ _ _), upd_s]; rfl
  generalize (va_up M (B + 22) (.inl (0, 6, .inl (upd (fA M B 22) v ((((fA M B 22) v) + (nI (1)))))))) = M1 at *
  have hk1 := hk0.mf hm1 rfl rfl
  have hmg1 := hmg.mf hm1 rfl rfl
  have hmn1 := hmn.mf hm1 rfl rfl
  have hor1 := hor.mf hm1 rfl
  have h781 : isA (fA M1 B 78) 0 l := by rw [fA_m hm1 (by decide) rfl]; exact h78
  have h921 := (hm1.2.2 92 rfl).trans h92
  have e23 : fA M1 B 23 = fA M B 23 := fA_m hm1 (by decide) rfl
  have hcw1 : cvW M M1 B v := (cvK.mf (bl := ksB S) (en := enB (ksB S)) hm1 rfl rfl rfl rfl).w
  obtain ⟨fs1, hO1, hF1⟩ := id hm1.2.1
  refine hz_iloadn (pc := 10) 3 (hz_dec kX12_receive 8 rfl) rfl ?_
  refine hz_swIn (pc := 11) (off := 121) (tgt := 132) (hz_dec kX12_receive 9 rfl) (by decide) (by decide) rfl (by decide) ?_
  refine hz_aloadn (pc := 132) 0 (hz_dec kX12_receive 64 rfl) rfl ?_
  refine hz_iloadn (pc := 133) 1 (hz_dec kX12_receive 65 rfl) rfl ?_
  refine hz_iloadn (pc := 134) 2 (hz_dec kX12_receive 66 rfl) rfl ?_
  refine hz_callV (pc := 135) (a := B) (As := [.int (nI v), .int fr]) (st := []) (hz_dec kX12_receive 67 rfl) co_X12_655 im_X12_receiveBlock se_X12_receiveBlock rfl hO1 h8 (by omega) (c_rcvB hnn hvn hto hk1 hE1 hmg1 hmn1 hor1 hI hl4 h781 h921) rfl (by decide) ⟨Nat.le_refl _, Nat.le_refl _⟩ (Nat.le_of_ble_eq_true rfl) rfl (fun r9 z9 M2 hp9 => ?_)
  obtain ⟨rfl, rfl, hf2, hE2, hg2, hcw2, hmg2, h232, hup2, hdn2⟩ := hp9
  exact hz_iret (pc := 138) (hz_dec kX12_receive 68 rfl) rfl ⟨rfl, ⟨_, rfl⟩, rfl, (hm1.mono rfl rfl).tr (hf2.mono rfl rfl), hE2, hg1.tr hg2, hcw1.tr hcw2, hmg2, by rw [fA_m hf2 (by decide) rfl]; exact e22, by rw [h232, e23, rvS_5]; by_cases q : ksJ S l = 1; rw [if_pos q, if_pos (decide_eq_true q)]; rw [if_neg q, if_neg (fun c => q (of_decide_eq_true c))], hup2, hdn2⟩
set_option maxHeartbeats 4000000 in
set_option maxRecDepth 100000 in
theorem c_rcv6v {κ : hz_C} {z B nn v : Nat} {now fr : Int32} {dl : Nat → Nat} (hnn : nn ≤ 6) (hvn : v < nn) {d : Nat} (hto : (∃ b, b < 6 ∧ fr = nI b ∧ d = dl (6 * v + b)) ∨ (fr < 0 ∧ d = 0)) {M : hz_M} {S : ks_S} {l : by_L} (hk0 : md_k B M z) (hE : mdE M B) (hmg : mgR M B nn now dl (ksQ S)) (hmn : mnS M B v 1 S (pvI (ksF S)) (ksP S)) (hor : orX (fA M B) v (mkO (ksL S))) (hI : ksI S) (hl4 : l.length ≤ 4000) (h78 : isA (fA M B 78) 0 l) (h92 : fdB M B 92 = some (.int (nI l.length))) : hz_Mt κ xX12_receive 23 0 0 [.ref B, .int (nI v), .int fr, .int (nI 6)] z M (fun r z2 M2 => some (.int (nI (ksV S l))) = r ∧ rvP M z B nn v now dl (rvS nn dl now v fr d S 6 l) r z2 M2) := by
  refine hz_ent (lo := [(0, .ref B), (1, .int (nI v)), (2, .int fr), (3, .int (nI 6))]) (by decide) (Nat.le_of_ble_eq_true rfl) rfl ?_
  obtain ⟨⟨fs, hO, hF⟩, -, -, h8, hz⟩ := id hk0
  have hv6 : v < 6 := by omega
  refine hz_aloadn (pc := 0) 0 (hz_dec kX12_receive 0 rfl) rfl ?_
  refine hz_get (pc := 1) (v := .ref (B + 22)) (hz_dec kX12_receive 1 rfl) fo_X12_77 hO h8 (by omega) (hF.2 24 (by decide) (by decide)) ?_
  refine hz_iloadn (pc := 4) 1 (hz_dec kX12_receive 2 rfl) rfl ?_
  refine hz_dup2 (pc := 5) (hz_dec kX12_receive 3 rfl) rfl rfl ?_
  refine hz_iald (pc := 6) (j := v) (hz_dec kX12_receive 4 rfl) hE.a22 (by omega) (by omega) rfl (by omega) (by decide) ?_
  refine hz_iconst (pc := 7) (v := nI 1) (hz_dec kX12_receive 5 rfl) (by decide) ?_
  refine hz_iadd (pc := 8) (hz_dec kX12_receive 6 rfl) ?_
  refine hz_iast (pc := 9) (j := v) (hz_dec kX12_receive 7 rfl) hE.a22 (by omega) (by omega) rfl (by omega) (by decide) ?_
  have hm1 : mfr B [] [22] M (va_up M (B + 22) (.inl (0, 6, .inl (upd (fA M B 22) v ((((fA M B 22) v) + (nI (1)))))))) := (mfr.rf ⟨fs, hO, hF⟩).upA (o := 22) rfl (by decide)
  have hE1 : mdE (va_up M (B + 22) (.inl (0, 6, .inl (upd (fA M B 22) v ((((fA M B 22) v) + (nI (1)))))))) B := hE.upA (by decide)
  have hg1 : agV M (va_up M (B + 22) (.inl (0, 6, .inl (upd (fA M B 22) v ((((fA M B 22) v) + (nI (1)))))))) B v := agV.upA (s := 1) agV.rf rfl rfl (fun x hx => upd_o (by omega))
  have e22 : fA (va_up M (B + 22) (.inl (0, 6, .inl (upd (fA M B 22) v ((((fA M B 22) v) + (nI (1)))))))) B 22 v = fA M B 22 v + 1 := by rw [fA_of (va_up_self _ _ _), upd_s]; rfl
  generalize (va_up M (B + 22) (.inl (0, 6, .inl (upd (fA M B 22) v ((((fA M B 22) v) + (nI (1)))))))) = M1 at *
  have hk1 := hk0.mf hm1 rfl rfl
  have hmg1 := hmg.mf hm1 rfl rfl
  have hmn1 := hmn.mf hm1 rfl rfl
  have hor1 := hor.mf hm1 rfl
  have h781 : isA (fA M1 B 78) 0 l := by rw [fA_m hm1 (by decide) rfl]; exact h78
  have h921 := (hm1.2.2 92 rfl).trans h92
  have e23 : fA M1 B 23 = fA M B 23 := fA_m hm1 (by decide) rfl
  have hcw1 : cvW M M1 B v := (cvK.mf (bl := ksB S) (en := enB (ksB S)) hm1 rfl rfl rfl rfl).w
  obtain ⟨fs1, hO1, hF1⟩ := id hm1.2.1
  refine hz_iloadn (pc := 10) 3 (hz_dec kX12_receive 8 rfl) rfl ?_
  refine hz_swOut (pc := 11) (tgt := 139) (hz_dec kX12_receive 9 rfl) (by decide) (by decide) ?_
  refine hz_aloadn (pc := 139) 0 (hz_dec kX12_receive 69 rfl) rfl ?_
  refine hz_iloadn (pc := 140) 1 (hz_dec kX12_receive 70 rfl) rfl ?_
  refine hz_iloadn (pc := 141) 2 (hz_dec kX12_receive 71 rfl) rfl ?_
  refine hz_callV (pc := 142) (a := B) (As := [.int (nI v), .int fr]) (st := []) (hz_dec kX12_receive 72 rfl) co_X12_658 im_X12_receiveTransaction se_X12_receiveTransaction rfl hO1 h8 (by omega) (c_rcvT hnn hvn hto hk1 hE1 hmg1 hmn1 hor1 hI hl4 h781 h921) rfl (by decide) ⟨Nat.le_refl _, Nat.le_refl _⟩ (Nat.le_of_ble_eq_true rfl) rfl (fun r9 z9 M2 hp9 => ?_)
  obtain ⟨rfl, rfl, hf2, hE2, hg2, hcw2, hmg2, h232, hmn2, hor2⟩ := hp9
  exact hz_iret (pc := 145) (hz_dec kX12_receive 73 rfl) rfl ⟨rfl, ⟨_, rfl⟩, rfl, (hm1.mono rfl rfl).tr (hf2.mono rfl rfl), hE2, hg1.tr hg2, hcw1.tr hcw2, hmg2, by rw [fA_m hf2 (by decide) rfl]; exact e22, by rw [h232, e23, rvS_6]; by_cases q : ksV S l = 1; rw [if_pos q, if_pos (decide_eq_true q)]; rw [if_neg q, if_neg (fun c => q (of_decide_eq_true c))], fun _ => ⟨hmn2, hor2⟩, fun q => nomatch q⟩
/-- what the node gives: its state, whether it is up, the answer -/
def gvR (H : ho_H) (v : Nat) (N : nd_N) (kd : Nat) : ks_S × Bool × Int32 := if kd = 5 then tkB (hoN H).length (hoD H) (hoW H) v (-1) 0 (ksq N.1 (hoQ H)) (hoT H) else (tkT (hoN H).length (hoD H) (hoW H) v (-1) (ksq N.1 (hoQ H)) (hoT H), true, nI (ksV (ksq N.1 (hoQ H)) (hoT H)))
def gvH (H : ho_H) (v : Nat) (N : nd_N) (kd : Nat) : ho_H := hoS (hot H [] (hoE H)) v ((gvR H v N kd).1, (gvR H v N kd).2.1, N.2.2) (ksQ (gvR H v N kd).1)
theorem frS.hoG {M M2 : hz_M} {b nn : Nat} (hb : b < nn) (f : frS [(9, 39), (45, 54), (58, 62), (63 + 34 * b, 63 + 34 * b + 34)] M M2) : frS [(9, 39), (45, 54), (57, 62), (63 + 34 * b, 63 + 34 * b + 34)] M M2 := f.mono (fun q (h9 : outS [(9, 39), (45, 54), (57, 62), (63 + 34 * b, 63 + 34 * b + 34)] q) => ⟨h9.1, h9.2.1, by have r := h9.2.2.1; omega, h9.2.2.2.1, trivial⟩)
set_option maxHeartbeats 4000000 in
set_option maxRecDepth 100000 in
theorem c_give5 {κ : hz_C} {z : Nat} {M : hz_M} {H : ho_H} (hz : 63 + 34 * (hoN H).length ≤ z) (hnn : (hoN H).length ≤ 6) (hT4 : (hoT H).length ≤ 4000) {ll : Nat} {fr kn : Int32} (hR : hcR M z H ll fr kn) {v : Nat} (hv : v < (hoN H).length) {N : nd_N} (hN : ndL (hoN H) v = N) (hup : N.2.1 = true) (hI : ksI N.1) : hz_Mt κ xX11_give 17 0 0 [.ref 8, .int (nI v), .int (nI 5)] z M (hcP M z H (.int (gvR H v N 5).2.2) (gvH H v N 5)) := by
  refine hz_ent (lo := [(0, .ref 8), (1, .int (nI v)), (2, .int (nI 5))]) (by decide) (Nat.le_of_ble_eq_true rfl) rfl ?_
  have hH := hR.1
  have hNs := hR.2.1
  obtain ⟨hO, hQ, hD⟩ := id hR.2.2.2.2.1
  obtain ⟨g53, h53⟩ := hR.2.2.2.2.2.1
  have hJ := hR.2.2.2.1
  obtain ⟨g56, h56, hT56⟩ := hR.2.2.2.2.2.2.2.2.2.1
  have hdf := hR.2.2.2.2.2.2.2.2.2.2
  have hck : ck_k M z := hJ.2.2.2.2.2.2.2.1
  have hcs : ck_s M := hJ.2.2.2.2.2.2.2.2.1
  have hz63 : 63 ≤ z := by omega
  have hK := hR.2.2.1 v hv
  rw [hN] at hK
  obtain ⟨hn, ⟨gd, hgd, hgD⟩, hT, hC, hP, hL⟩ := id hK
  have hn : M (63 + 34 * v) = ndO (63 + 34 * v) (nI v) (nI 1) (nI (ksN N.1)) (pvI (ksF N.1)) N.2.2.1 N.2.2.2 := by rw [hup] at hn; exact hn
  obtain ⟨g57, h57⟩ := hR.2.2.2.2.2.2.2.2.1
  refine hz_aloadn (pc := 0) 0 (hz_dec kX11_give 0 rfl) rfl ?_
  refine hz_iloadn (pc := 1) 1 (hz_dec kX11_give 1 rfl) rfl ?_
  refine hz_xV (pc := 2) (a := 8) (As := [.int (nI v)]) (st := []) (hz_dec kX11_give 2 rfl) co_X11_162 im_X11_nodeOf se_X11_nodeOf rfl hH (by omega) (by omega) (c_nOf hz63 hH hnn hNs (b := v) hv) rfl (by decide) ⟨Nat.le_refl _, Nat.le_refl _⟩ (Nat.le_of_ble_eq_true rfl) rfl ?_
  refine hz_astoren (pc := 5) (i := 3) (lo2 := [(3, .ref (63 + 34 * v)), (0, .ref 8), (1, .int (nI v)), (2, .int (nI 5))]) (hz_dec kX11_give 3 rfl) rfl (by decide) rfl ?_
  refine hz_aloadn (pc := 6) 0 (hz_dec kX11_give 4 rfl) rfl ?_
  refine hz_ifnull (pc := 7) (hz_dec kX11_give 5 rfl) ?_
  refine hz_iloadn (pc := 10) 3 (hz_dec kX11_give 6 rfl) rfl ?_
  refine hz_iconst (pc := 11) (v := nI 5) (hz_dec kX11_give 7 rfl) (by decide) ?_
  refine hz_n_eq (pc := 12) (tgt := 23) (hz_dec kX11_give 8 rfl) (by decide) (by omega) (by omega) (fun hq1 => ?_) (fun hq1 => ?_)
  · skip
    refine hz_aloadn (pc := 23) 0 (hz_dec kX11_give 14 rfl) rfl ?_
    refine hz_get (pc := 24) (hz_dec kX11_give 15 rfl) fo_X11_166 hn (by omega) (by omega) rfl ?_
    refine hz_z_ne (pc := 27) (tgt := 33) (hz_dec kX11_give 16 rfl) (by decide) (by omega) (fun hq2 => ?_) (fun hq2 => ?_)
    · skip
      refine hz_aloadn (pc := 33) 1 (hz_dec kX11_give 19 rfl) rfl ?_
      refine hz_get (pc := 34) (hz_dec kX11_give 20 rfl) fo_X11_62 hH (by omega) (by omega) rfl ?_
      refine hz_aloadn (pc := 37) 1 (hz_dec kX11_give 21 rfl) rfl ?_
      refine hz_get (pc := 38) (hz_dec kX11_give 22 rfl) fo_X11_72 hH (by omega) (by omega) rfl ?_
      refine hz_iconst (pc := 41) (v := nI 0) (hz_dec kX11_give 23 rfl) (by decide) ?_
      refine hz_aloadn (pc := 42) 1 (hz_dec kX11_give 24 rfl) rfl ?_
      refine hz_get (pc := 43) (hz_dec kX11_give 25 rfl) fo_X11_124 hH (by omega) (by omega) rfl ?_
      refine hz_callV (pc := 46) (a := 45) (As := [.ref 56, .int (nI 0), .int (nI ((hoT H).length))]) (st := []) (hz_dec kX11_give 26 rfl) co_X11_296 im_X5_hold se_X5_hold rfl hO (by omega) (by omega) (c_hold hz63 hO hnn (at_ := 0) (t := hoT H) h56 (by decide) (by omega) (by decide) (by decide) hT56 (by omega) h53 hT4) rfl (by decide) ⟨Nat.le_refl _, Nat.le_refl _⟩ (Nat.le_of_ble_eq_true rfl) rfl (fun r9 z9 M2 hp9 => ?_)
      obtain ⟨rfl, rfl, hf2, h452, g2, h532, hA2⟩ := hp9
      have hR2 : hcR M2 z H (hoT H).length fr kn := hR.m hf2 h452 ⟨g2, h532⟩
      have hH2 := hR2.1
      have h562 := (hf2.at2 (q := 56) (by omega)).trans h56
      have hn2 := (hf2.at2 (q := 63 + 34 * v) (by omega)).trans hn
      refine hz_aloadn (pc := 49) 1 (hz_dec kX11_give 27 rfl) rfl ?_
      refine hz_get (pc := 50) (hz_dec kX11_give 28 rfl) fo_X11_62 hH2 (by omega) (by omega) rfl ?_
      refine hz_iconst (pc := 53) (v := (-1)) (hz_dec kX11_give 29 rfl) (by decide) ?_
      refine hz_puti (pc := 54) (hz_dec kX11_give 30 rfl) fo_X11_299 ft_X5_11 h452 (by omega) (by omega) (Nat.le_of_ble_eq_true rfl) ?_
      refine hz_mem (pc := 57) (M2 := (va_up M2 45 (.inr (5, [.ref 46, .ref 49, .ref 50, .ref 51, .ref 52, .int (nI ((hoN H).length)), .ref 54, .int (hoW H), .int ((hoQ H).2), .ref 53, .int (nI ((hoT H).length)), .int (-1), .int kn])))) rfl ?_
      refine hz_aloadn (pc := 57) 1 (hz_dec kX11_give 31 rfl) rfl ?_
      refine hz_iconst (pc := 58) (v := nI 0) (hz_dec kX11_give 32 rfl) (by decide) ?_
      refine hz_puti (pc := 59) (hz_dec kX11_give 33 rfl) fo_X11_124 ft_X11_8 (hz_mne hH2 (by omega)) (by omega) (by omega) (Nat.le_of_ble_eq_true rfl) ?_
      refine hz_mem (pc := 62) (M2 := (va_up (va_up M2 45 (.inr (5, [.ref 46, .ref 49, .ref 50, .ref 51, .ref 52, .int (nI ((hoN H).length)), .ref 54, .int (hoW H), .int ((hoQ H).2), .ref 53, .int (nI ((hoT H).length)), .int (-1), .int kn]))) 8 (.inr (11, [.ref 9, .ref 13, .ref 20, .ref 25, .ref 39, .ref 45, .ref 55, .ref 56, .int (nI 0), .int (hoE H), .ref 57, .ref 58, .ref 61])))) rfl ?_
      have hf3 : frS [(45, 46), (53, 54)] M2 (va_up M2 45 (.inr (5, [.ref 46, .ref 49, .ref 50, .ref 51, .ref 52, .int (nI ((hoN H).length)), .ref 54, .int (hoW H), .int ((hoQ H).2), .ref 53, .int (nI ((hoT H).length)), .int (-1), .int kn]))) := ((frS.rf (S := [(45, 46), (53, 54)])).upr (a := 45) (by simp only [outS, and_true]; omega))
      have hR3 : hcR (va_up M2 45 (.inr (5, [.ref 46, .ref 49, .ref 50, .ref 51, .ref 52, .int (nI ((hoN H).length)), .ref 54, .int (hoW H), .int ((hoQ H).2), .ref 53, .int (nI ((hoT H).length)), .int (-1), .int kn]))) z H (hoT H).length (-1) kn := hR2.m hf3 (va_up_self _ _ _) ⟨g2, hz_mne h532 (by decide)⟩
      have hf4 : frS [(8, 9), (56, 57)] (va_up M2 45 (.inr (5, [.ref 46, .ref 49, .ref 50, .ref 51, .ref 52, .int (nI ((hoN H).length)), .ref 54, .int (hoW H), .int ((hoQ H).2), .ref 53, .int (nI ((hoT H).length)), .int (-1), .int kn]))) (va_up (va_up M2 45 (.inr (5, [.ref 46, .ref 49, .ref 50, .ref 51, .ref 52, .int (nI ((hoN H).length)), .ref 54, .int (hoW H), .int ((hoQ H).2), .ref 53, .int (nI ((hoT H).length)), .int (-1), .int kn]))) 8 (.inr (11, [.ref 9, .ref 13, .ref 20, .ref 25, .ref 39, .ref 45, .ref 55, .ref 56, .int (nI 0), .int (hoE H), .ref 57, .ref 58, .ref 61]))) := frS.rf.upr (a := 8) (by simp only [outS, and_true]; omega)
      have hR4 : hcR (va_up (va_up M2 45 (.inr (5, [.ref 46, .ref 49, .ref 50, .ref 51, .ref 52, .int (nI ((hoN H).length)), .ref 54, .int (hoW H), .int ((hoQ H).2), .ref 53, .int (nI ((hoT H).length)), .int (-1), .int kn]))) 8 (.inr (11, [.ref 9, .ref 13, .ref 20, .ref 25, .ref 39, .ref 45, .ref 55, .ref 56, .int (nI 0), .int (hoE H), .ref 57, .ref 58, .ref 61]))) z (hot H [] (hoE H)) (hoT H).length (-1) kn := hR3.t (T := []) hf4 (va_up_self _ _ _) ⟨g56, hz_mne (hz_mne h562 (by decide)) (by decide), isA_nil _ _⟩
      have h534 : (va_up (va_up M2 45 (.inr (5, [.ref 46, .ref 49, .ref 50, .ref 51, .ref 52, .int (nI ((hoN H).length)), .ref 54, .int (hoW H), .int ((hoQ H).2), .ref 53, .int (nI ((hoT H).length)), .int (-1), .int kn]))) 8 (.inr (11, [.ref 9, .ref 13, .ref 20, .ref 25, .ref 39, .ref 45, .ref 55, .ref 56, .int (nI 0), .int (hoE H), .ref 57, .ref 58, .ref 61]))) 53 = .inl (1, 4000, .inl g2) := hz_mne (hz_mne h532 (by decide)) (by decide)
      have hfz : frS [(8, 63 + 34 * (hoN H).length)] M (va_up (va_up M2 45 (.inr (5, [.ref 46, .ref 49, .ref 50, .ref 51, .ref 52, .int (nI ((hoN H).length)), .ref 54, .int (hoW H), .int ((hoQ H).2), .ref 53, .int (nI ((hoT H).length)), .int (-1), .int kn]))) 8 (.inr (11, [.ref 9, .ref 13, .ref 20, .ref 25, .ref 39, .ref 45, .ref 55, .ref 56, .int (nI 0), .int (hoE H), .ref 57, .ref 58, .ref 61]))) := (hf2.mono (fun q (h9 : outS [(8, 63 + 34 * (hoN H).length)] q) => ⟨by have r := h9.1; omega, by have r := h9.1; omega, trivial⟩)).tr ((hf3.mono (fun q (h9 : outS [(8, 63 + 34 * (hoN H).length)] q) => ⟨by have r := h9.1; omega, by have r := h9.1; omega, trivial⟩)).tr (hf4.mono (fun q (h9 : outS [(8, 63 + 34 * (hoN H).length)] q) => ⟨by have r := h9.1; omega, by have r := h9.1; omega, trivial⟩)))
      generalize (va_up (va_up M2 45 (.inr (5, [.ref 46, .ref 49, .ref 50, .ref 51, .ref 52, .int (nI ((hoN H).length)), .ref 54, .int (hoW H), .int ((hoQ H).2), .ref 53, .int (nI ((hoT H).length)), .int (-1), .int kn]))) 8 (.inr (11, [.ref 9, .ref 13, .ref 20, .ref 25, .ref 39, .ref 45, .ref 55, .ref 56, .int (nI 0), .int (hoE H), .ref 57, .ref 58, .ref 61]))) = M4 at *
      obtain ⟨g57, h574⟩ := hR4.2.2.2.2.2.2.2.2.1
      have hH4 := hR4.1
      have hK4 : kcR M4 z (63 + 34 * v) (hoN H).length v 0 (hoE H) (hoW H) (-1) kn N.2.2.1 N.2.2.2 (nI 1) (hoD H) (hoT H).length (ksq N.1 (hoQ H)) := by have q := hR4.kc (v := v) hv; rw [show ndL (hoN (hot H [] (hoE H))) v = N from hN, hup] at q; exact q
      refine hz_iloadn (pc := 62) 3 (hz_dec kX11_give 34 rfl) rfl ?_
      refine hz_iconst (pc := 63) (v := nI 5) (hz_dec kX11_give 35 rfl) (by decide) ?_
      refine hz_n_ne (pc := 64) (tgt := 75) (hz_dec kX11_give 36 rfl) (by decide) (by omega) (by omega) (fun hq3 => ?_) (fun hq3 => ?_)
      · skip
        exact absurd hq3 (by decide)
      · skip
        refine hz_aloadn (pc := 67) 1 (hz_dec kX11_give 37 rfl) rfl ?_
        refine hz_aloadn (pc := 68) 0 (hz_dec kX11_give 38 rfl) rfl ?_
        refine hz_callV (pc := 69) (a := 8) (As := [.ref (63 + 34 * v)]) (st := []) (hz_dec kX11_give 39 rfl) co_X11_302 im_X11_takeBlock se_X11_takeBlock rfl hH4 (by omega) (by omega) (c_tkBlk (by omega) (by omega) hnn hv (d := 0) (Or.inr ⟨by decide, rfl⟩) hK4 (ksq_I hI) hT4 h534 hA2 h574) rfl (by decide) ⟨Nat.le_refl _, Nat.le_refl _⟩ (Nat.le_of_ble_eq_true rfl) rfl (fun r9 z9 M5 hp9 => ?_)
        obtain ⟨rfl, rfl, hf5, ⟨ll5, hK5⟩, h575⟩ := hp9
        have hR5 : hcR M5 z (gvH H v N 5) ll5 (-1) kn := hcR.put hR4 hv hf5 (N := ((gvR H v N 5).1, (gvR H v N 5).2.1, N.2.2)) hK5 h575
        refine hz_goto (pc := 72) (tgt := 80) (hz_dec kX11_give 40 rfl) (by decide) ?_
        exact hz_iret (pc := 80) (hz_dec kX11_give 44 rfl) rfl ⟨rfl, rfl, hfz.tr (frS.ho hv hf5), _, _, _, hR5⟩
    · skip
      exact absurd hq2 (by decide)
  · skip
    exact absurd hq1 (by decide)
set_option maxHeartbeats 4000000 in
set_option maxRecDepth 100000 in
theorem c_rgive5 {κ : hz_C} {z B : Nat} {M : hz_M} {H : ho_H} (hnn : (hoN H).length ≤ 6) (hT4 : (hoT H).length ≤ 4000) (hR : hmR M z B H) {v : Nat} (hv : v < (hoN H).length) {N : nd_N} (hN : ndL (hoN H) v = N) (hup : N.2.1 = true) (hI : ksI N.1) (hX : hoX H) : hz_Mt κ xX12_give 24 0 0 [.ref B, .int (nI v), .int (nI 5)] z M (hmP M z B (.int (gvR H v N 5).2.2) (gvH H v N 5)) := by
  refine hz_ent (lo := [(0, .ref B), (1, .int (nI v)), (2, .int (nI 5))]) (by decide) (Nat.le_of_ble_eq_true rfl) rfl ?_
  obtain ⟨hk0_, hE0, ⟨m1, m2, m3⟩, hNd, a5, a6, a7, a8⟩ := id hR
  obtain ⟨⟨fs, hO, hF⟩, -, -, h8, hz⟩ := id hk0_
  obtain ⟨x1, x3, x4, x5, x6, x7, x8⟩ := id m3
  have eSt : stI (ndL (hoN H) v).2.1 = nI 0 := by rw [hN, hup]; rfl
  refine hz_aloadn (pc := 0) 0 (hz_dec kX12_give 0 rfl) rfl ?_
  refine hz_iconst (pc := 1) (v := nI 0) (hz_dec kX12_give 1 rfl) (by decide) ?_
  refine hz_puti (pc := 2) (hz_dec kX12_give 2 rfl) fo_X12_302 ft_X12_0 hO h8 (by omega) (by rw [hF.1]; decide) ?_
  have hf1 : mfr B [0, 89] [] M (va_up M B (.inr (12, (List.set fs 0 (.int (nI 0)))))) := (mfr.rf ⟨fs, hO, hF⟩).upO (k := 0) hO hF rfl rfl
  have hR1 : hmR (va_up M B (.inr (12, (List.set fs 0 (.int (nI 0)))))) z B H := hR.m0 hf1 hE0.upO ((fdB_of (va_up_self _ _ _) 89).trans ((List.getElem?_set_ne (by decide)).trans ((fdB_of hO 89).symm.trans x8)))
  generalize (va_up M B (.inr (12, (List.set fs 0 (.int (nI 0)))))) = M1 at *
  obtain ⟨hk1, hE1, ⟨n1, d1, q1⟩, hNd1, a51, a61, a71, a81⟩ := id hR1
  obtain ⟨⟨fs1, hO1, hF1⟩, -, -, -, -⟩ := id hk1
  have g95_1 : fs1[95]? = some (.int (nI ((hoT H).length))) := (fdB_of hO1 95).symm.trans a61
  refine hz_iloadn (pc := 5) 2 (hz_dec kX12_give 3 rfl) rfl ?_
  refine hz_iconst (pc := 6) (v := nI 5) (hz_dec kX12_give 4 rfl) (by decide) ?_
  refine hz_n_eq (pc := 7) (tgt := 18) (hz_dec kX12_give 5 rfl) (by decide) (by omega) (by omega) (fun hq1 => ?_) (fun hq1 => ?_)
  · skip
    refine hz_aloadn (pc := 18) 0 (hz_dec kX12_give 11 rfl) rfl ?_
    refine hz_iloadn (pc := 19) 1 (hz_dec kX12_give 12 rfl) rfl ?_
    refine hz_xV (pc := 20) (a := B) (As := [.int (nI v)]) (st := []) (hz_dec kX12_give 13 rfl) co_X12_692 im_X12_stateOf se_X12_stateOf rfl hO1 h8 (by omega) (c_st hnn hR1 hv) rfl (by decide) ⟨Nat.le_refl _, Nat.le_refl _⟩ (Nat.le_of_ble_eq_true rfl) rfl ?_
    refine hz_eqi (pc := 23) eSt ?_
    refine hz_istoren (pc := 23) (i := 3) (lo2 := [(3, .int (nI 0)), (0, .ref B), (1, .int (nI v)), (2, .int (nI 5))]) (hz_dec kX12_give 14 rfl) rfl (by decide) rfl ?_
    refine hz_iloadn (pc := 24) 0 (hz_dec kX12_give 15 rfl) rfl ?_
    refine hz_z_ge (pc := 25) (tgt := 30) (hz_dec kX12_give 16 rfl) (by decide) (by omega) ?_
    refine hz_aloadn (pc := 30) 1 (hz_dec kX12_give 19 rfl) rfl ?_
    refine hz_callV (pc := 31) (a := B) (As := []) (st := []) (hz_dec kX12_give 20 rfl) co_X12_702 im_X12_tapeToInbox se_X12_tapeToInbox rfl hO1 h8 (by omega) (c_tTI hk1.1 hE1 h8 hz hT4 a51 a61) rfl (by decide) ⟨Nat.le_refl _, Nat.le_refl _⟩ (Nat.le_of_ble_eq_true rfl) rfl (fun r9 z9 M2 hp9 => ?_)
    obtain ⟨rfl, rfl, hf2, hE2_, h78, h92⟩ := hp9
    have hR2 : hmR M2 z B H := hR1.sc hf2 hE2_ rfl rfl rfl rfl rfl rfl rfl rfl rfl rfl rfl rfl rfl rfl rfl rfl rfl rfl rfl
    obtain ⟨hk2, hE2, ⟨n2, d2, q2⟩, hNd2, a52, a62, a72, a82⟩ := id hR2
    obtain ⟨⟨fs2, hO2, hF2⟩, -, -, -, -⟩ := id hk2
    have g95_2 : fs2[95]? = some (.int (nI ((hoT H).length))) := (fdB_of hO2 95).symm.trans a62
    have g103_2 : fs2[103]? = some (.int (hoE H)) := (fdB_of hO2 103).symm.trans a82
    refine hz_aloadn (pc := 34) 1 (hz_dec kX12_give 21 rfl) rfl ?_
    refine hz_iconst (pc := 35) (v := nI 0) (hz_dec kX12_give 22 rfl) (by decide) ?_
    refine hz_puti (pc := 36) (hz_dec kX12_give 23 rfl) fo_X12_679 ft_X12_95 hO2 h8 (by omega) (by rw [hF2.1]; decide) ?_
    have hf3 : mfr B [95, 103] [80] M2 (va_up M2 B (.inr (12, (List.set fs2 95 (.int (nI 0)))))) := ((mfr.rf (ks := [95, 103]) (os := [80]) hk2.1).upO (k := 95) hO2 hF2 rfl rfl)
    have hE3_ : mdE (va_up M2 B (.inr (12, (List.set fs2 95 (.int (nI 0)))))) B := (hE2.upO)
    have hR3 : hmR (va_up M2 B (.inr (12, (List.set fs2 95 (.int (nI 0)))))) z B (hot H [] (hoE H)) := hR2.t hf3 hE3_ (isA_nil _ _) ((fdB_of (va_up_self _ _ _) 95).trans (List.getElem?_set_self (by rw [hF2.1]; decide))) ((fdB_of (va_up_self _ _ _) 103).trans ((List.getElem?_set_ne (by decide)).trans g103_2))
    generalize (va_up M2 B (.inr (12, (List.set fs2 95 (.int (nI 0)))))) = M3 at *
    obtain ⟨hk3, hE3, ⟨n3, d3, q3⟩, hNd3, a53, a63, a73, a83⟩ := id hR3
    obtain ⟨⟨fs3, hO3, hF3⟩, -, -, -, -⟩ := id hk3
    have hNd3 : ∀ v, v < (hoN H).length → mdN M3 B v (ndL (hoN H) v) := hNd3
    have h0 : mdN M3 B v N := by have q := hNd3 v hv; rw [hN] at q; exact q
    have hv6 : v < 6 := by omega
    have h01 : mnS M3 B v 1 N.1 (pvI (ksF N.1)) (ksP N.1) := by have q := h0.1; rw [hup] at q; exact q
    have h02 : orX (fA M3 B) v (mkO (ksL N.1)) := by have q := h0.2.1; rw [hup] at q; exact q
    obtain ⟨p1, p2, p3, p4, ⟨p5a, p5b, p5c⟩, p6, p7, p9⟩ := id h01
    have hbp := hI.1.p hI.2.1
    obtain ⟨b1, b2, b3, b4, b5, b6, b7, b8⟩ := id hbp
    have h783 : isA (fA M3 B 78) 0 (hoT H) := by rw [fA_m hf3 (by decide) rfl]; exact h78
    have h923 := (hf3.2.2 92 rfl).trans h92
    refine hz_aloadn (pc := 39) 1 (hz_dec kX12_give 24 rfl) rfl ?_
    refine hz_get (pc := 40) (v := .ref (B + 22)) (hz_dec kX12_give 25 rfl) fo_X12_77 hO3 h8 (by omega) (hF3.2 24 (by decide) (by decide)) ?_
    refine hz_iloadn (pc := 43) 2 (hz_dec kX12_give 26 rfl) rfl ?_
    refine hz_iald (pc := 44) (j := v) (hz_dec kX12_give 27 rfl) hE3.a22 (by omega) (by omega) rfl (by omega) (by decide) ?_
    refine hz_eqi (pc := 45) h0.2.2.1 ?_
    refine hz_istore (pc := 45) (i := 4) (lo2 := [(4, .int N.2.2.1), (3, .int (nI 0)), (0, .ref B), (1, .int (nI v)), (2, .int (nI 5))]) (hz_dec kX12_give 28 rfl) (by decide) rfl ?_
    refine hz_aloadn (pc := 47) 2 (hz_dec kX12_give 29 rfl) rfl ?_
    refine hz_get (pc := 48) (v := .ref (B + 23)) (hz_dec kX12_give 30 rfl) fo_X12_80 hO3 h8 (by omega) (hF3.2 25 (by decide) (by decide)) ?_
    refine hz_iloadn (pc := 51) 3 (hz_dec kX12_give 31 rfl) rfl ?_
    refine hz_iald (pc := 52) (j := v) (hz_dec kX12_give 32 rfl) hE3.a23 (by omega) (by omega) rfl (by omega) (by decide) ?_
    refine hz_eqi (pc := 53) h0.2.2.2 ?_
    refine hz_istore (pc := 53) (i := 5) (lo2 := [(5, .int N.2.2.2), (4, .int N.2.2.1), (3, .int (nI 0)), (0, .ref B), (1, .int (nI v)), (2, .int (nI 5))]) (hz_dec kX12_give 33 rfl) (by decide) rfl ?_
    refine hz_aloadn (pc := 55) 3 (hz_dec kX12_give 34 rfl) rfl ?_
    refine hz_iloadn (pc := 56) 4 (hz_dec kX12_give 35 rfl) rfl ?_
    refine hz_iconst (pc := 57) (v := (-1)) (hz_dec kX12_give 36 rfl) (by decide) ?_
    refine hz_iloadn (pc := 58) 5 (hz_dec kX12_give 37 rfl) rfl ?_
    refine hz_callV (pc := 59) (a := B) (As := [.int (nI v), .int (-1), .int (nI 5)]) (st := []) (hz_dec kX12_give 38 rfl) co_X12_705 im_X12_receive se_X12_receive rfl hO3 h8 (by omega) (c_rcv5v hnn hv (d := 0) (Or.inr ⟨by decide, rfl⟩) hk3 hE3 (S := (ksq N.1 (hoQ H))) hR3.2.2.1 h01 h02 (ksq_I hI) hT4 h783 h923) rfl (by decide) ⟨Nat.le_refl _, Nat.le_refl _⟩ (Nat.le_of_ble_eq_true rfl) rfl (fun r9 z9 M4 hp9 => ?_)
    obtain ⟨rfl, -, rfl, hf4, hE4, hag4, hcw4, hmg4, -, -, hu4, hd4⟩ := hp9
    rw [rvS_5] at hmg4 hu4 hd4
    have hmgG : mgR M4 B (hoN H).length (hoW H) (hoD H) (ksQ (gvR H v N 5).1) := hmg4
    have huG : (gvR H v N 5).2.1 = true → mnS M4 B v 1 (gvR H v N 5).1 (pvI (ksF (gvR H v N 5).1)) (ksP (gvR H v N 5).1) ∧ orX (fA M4 B) v (mkO (ksL (gvR H v N 5).1)) := hu4
    have hdG : (gvR H v N 5).2.1 = false → mnS M4 B v 0 (gvR H v N 5).1 (-1) [] ∧ orX (fA M4 B) v [] := hd4
    have hav : (gvR H v N 5).2.2 = if (gvR H v N 5).2.1 = true then nI (ksJ (ksq N.1 (hoQ H)) (hoT H)) else -2 := tkB_v
    obtain ⟨fs4, hO4, hF4⟩ := id hf4.2.1
    clear hmg4 hu4 hd4
    have e16 : fA M4 B 16 v = hz_b (gvR H v N 5).2.1 := by cases hb : (gvR H v N 5).2.1 with
      | true => exact (huG hb).1.1
      | false => exact (hdG hb).1.1
    refine hz_istore (pc := 62) (i := 6) (lo2 := [(6, .int (nI (ksJ (ksq N.1 (hoQ H)) (hoT H)))), (5, .int N.2.2.2), (4, .int N.2.2.1), (3, .int (nI 0)), (0, .ref B), (1, .int (nI v)), (2, .int (nI 5))]) (hz_dec kX12_give 39 rfl) (by decide) rfl ?_
    refine hz_aloadn (pc := 64) 4 (hz_dec kX12_give 40 rfl) rfl ?_
    refine hz_get (pc := 65) (v := .ref (B + 22)) (hz_dec kX12_give 41 rfl) fo_X12_77 hO4 h8 (by omega) (hF4.2 24 (by decide) (by decide)) ?_
    refine hz_iloadn (pc := 68) 5 (hz_dec kX12_give 42 rfl) rfl ?_
    refine hz_iload (pc := 69) 2 (hz_dec kX12_give 43 rfl) rfl ?_
    refine hz_iast (pc := 71) (j := v) (hz_dec kX12_give 44 rfl) hE4.a22 (by omega) (by omega) rfl (by omega) (by decide) ?_
    refine hz_aloadn (pc := 72) 4 (hz_dec kX12_give 45 rfl) rfl ?_
    refine hz_get (pc := 73) (v := .ref (B + 23)) (hz_dec kX12_give 46 rfl) fo_X12_80 (hz_mne hO4 (by omega)) h8 (by omega) (hF4.2 25 (by decide) (by decide)) ?_
    refine hz_iloadn (pc := 76) 5 (hz_dec kX12_give 47 rfl) rfl ?_
    refine hz_iload (pc := 77) 1 (hz_dec kX12_give 48 rfl) rfl ?_
    refine hz_iast (pc := 79) (j := v) (hz_dec kX12_give 49 rfl) (hz_mne hE4.a23 (by omega)) (by omega) (by omega) rfl (by omega) (by decide) ?_
    refine hz_aloadn (pc := 80) 4 (hz_dec kX12_give 50 rfl) rfl ?_
    refine hz_get (pc := 81) (v := .ref (B + 16)) (hz_dec kX12_give 51 rfl) fo_X12_57 (hz_mne (hz_mne hO4 (by omega)) (by omega)) h8 (by omega) (hF4.2 18 (by decide) (by decide)) ?_
    refine hz_iloadn (pc := 84) 5 (hz_dec kX12_give 52 rfl) rfl ?_
    refine hz_zald (pc := 85) (j := v) (hz_dec kX12_give 53 rfl) (hz_mne (hz_mne hE4.a16 (by omega)) (by omega)) (by omega) (by omega) rfl (by omega) (by decide) ?_
    refine hz_eqi (pc := 86) e16 ?_
    have hf5 : mfr B [] [22, 23] M4 (va_up (va_up M4 (B + 22) (.inl (0, 6, .inl (upd (fA M4 B 22) v ((N.2.2.1)))))) (B + 23) (.inl (0, 6, .inl (upd (fA M4 B 23) v ((N.2.2.2)))))) := (((mfr.rf (ks := []) (os := [22, 23]) hf4.2.1).upA (o := 22) rfl (by decide)).upA (o := 23) rfl (by decide))
    have hE5 : mdE (va_up (va_up M4 (B + 22) (.inl (0, 6, .inl (upd (fA M4 B 22) v ((N.2.2.1)))))) (B + 23) (.inl (0, 6, .inl (upd (fA M4 B 23) v ((N.2.2.2)))))) B := ((hE4.upA (k := 22) (t := 0) (n := 6) (by decide)).upA (k := 23) (t := 0) (n := 6) (by decide))
    have hag5 : agV M3 (va_up (va_up M4 (B + 22) (.inl (0, 6, .inl (upd (fA M4 B 22) v ((N.2.2.1)))))) (B + 23) (.inl (0, 6, .inl (upd (fA M4 B 23) v ((N.2.2.2)))))) B v := (hag4.upA (o := 22) (s := 1) (by decide) (by decide) (fun x hx => upd_o (by omega))).upA (o := 23) (s := 1) (by decide) (by decide) (fun x hx => by rw [fA_c (va_up_ne _ _ (by omega))]; exact upd_o (by omega))
    have hcw5 : cvW M3 (va_up (va_up M4 (B + 22) (.inl (0, 6, .inl (upd (fA M4 B 22) v ((N.2.2.1)))))) (B + 23) (.inl (0, 6, .inl (upd (fA M4 B 23) v ((N.2.2.2)))))) B v := hcw4.tr (cvK.mf hf5 rfl rfl rfl rfl (bl := []) (en := [])).w
    have e225 : fA (va_up (va_up M4 (B + 22) (.inl (0, 6, .inl (upd (fA M4 B 22) v ((N.2.2.1)))))) (B + 23) (.inl (0, 6, .inl (upd (fA M4 B 23) v ((N.2.2.2)))))) B 22 v = N.2.2.1 := by rw [fA_c (va_up_ne _ _ (by omega)), fA_of (va_up_self _ _ _)]; exact upd_s
    have e235 : fA (va_up (va_up M4 (B + 22) (.inl (0, 6, .inl (upd (fA M4 B 22) v ((N.2.2.1)))))) (B + 23) (.inl (0, 6, .inl (upd (fA M4 B 23) v ((N.2.2.2)))))) B 23 v = N.2.2.2 := by rw [fA_of (va_up_self _ _ _)]; exact upd_s
    have hN5 : mdN (va_up (va_up M4 (B + 22) (.inl (0, 6, .inl (upd (fA M4 B 22) v ((N.2.2.1)))))) (B + 23) (.inl (0, 6, .inl (upd (fA M4 B 23) v ((N.2.2.2)))))) B v ((gvR H v N 5).1, (gvR H v N 5).2.1, N.2.2) := by
      cases hb : (gvR H v N 5).2.1 with
      | true => exact ⟨(huG hb).1.mf hf5 rfl rfl, (huG hb).2.mf hf5 rfl, e225, e235⟩
      | false => exact ⟨(hdG hb).1.mf hf5 rfl rfl, (hdG hb).2.mf hf5 rfl, e225, e235⟩
    have hf35 : mfr B [16, 39, 53, 54, 55, 59, 61, 86, 87, 88] [3, 4, 5, 6, 7, 8, 9, 10, 11, 12, 13, 14, 15, 16, 17, 18, 19, 20, 21, 22, 23, 24, 25, 26, 27, 28, 29, 30, 31, 32, 33, 35, 36, 37, 38, 39, 40, 41, 42, 43, 44, 45, 46, 47, 48, 49, 50, 51, 52, 53, 54, 55, 56, 57, 58, 59, 60, 61, 62, 63, 64, 65, 66, 67, 68, 70, 71, 72, 73, 74, 75, 76, 77, 79] M3 (va_up (va_up M4 (B + 22) (.inl (0, 6, .inl (upd (fA M4 B 22) v ((N.2.2.1)))))) (B + 23) (.inl (0, 6, .inl (upd (fA M4 B 23) v ((N.2.2.2)))))) := hf4.tr (hf5.mono rfl rfl)
    have hR5 : hmR (va_up (va_up M4 (B + 22) (.inl (0, 6, .inl (upd (fA M4 B 22) v ((N.2.2.1)))))) (B + 23) (.inl (0, 6, .inl (upd (fA M4 B 23) v ((N.2.2.2)))))) z B (gvH H v N 5) := hR3.put hnn hv hX.1 hf35 rfl rfl rfl rfl rfl rfl rfl rfl rfl rfl rfl rfl rfl hE5 hag5 hcw5 (q := ksQ (gvR H v N 5).1) (hmgG.mf hf5 rfl rfl) hN5
    have hfz : frM B M (va_up (va_up M4 (B + 22) (.inl (0, 6, .inl (upd (fA M4 B 22) v ((N.2.2.1)))))) (B + 23) (.inl (0, 6, .inl (upd (fA M4 B 23) v ((N.2.2.2)))))) := (((hf1.S rfl).tr (hf2.S rfl)).tr (hf3.S rfl)).tr (hf35.S rfl)
    refine hz_if_eq (pc := 86) (tgt := 94) (hz_dec kX12_give 54 rfl) (by decide) (fun h7 => ?_) (fun h7 => ?_)
    · skip
      have e7 := hz_b0 h7
      refine hz_bipush (pc := 94) (v := (-2)) (hz_dec kX12_give 57 rfl) (by decide) ?_
      exact hz_iret (pc := 96) (hz_dec kX12_give 58 rfl) rfl ⟨by rw [hav, e7]; rfl, rfl, hfz, hR5⟩
    · skip
      have e7 := hz_b1 h7
      refine hz_iload (pc := 89) 0 (hz_dec kX12_give 55 rfl) rfl ?_
      refine hz_goto (pc := 91) (tgt := 96) (hz_dec kX12_give 56 rfl) (by decide) ?_
      exact hz_iret (pc := 96) (hz_dec kX12_give 58 rfl) rfl ⟨by rw [hav, e7]; rfl, rfl, hfz, hR5⟩
  · skip
    exact absurd hq1 (by decide)
set_option maxHeartbeats 4000000 in
set_option maxRecDepth 100000 in
theorem c_give6 {κ : hz_C} {z : Nat} {M : hz_M} {H : ho_H} (hz : 63 + 34 * (hoN H).length ≤ z) (hnn : (hoN H).length ≤ 6) (hT4 : (hoT H).length ≤ 4000) {ll : Nat} {fr kn : Int32} (hR : hcR M z H ll fr kn) {v : Nat} (hv : v < (hoN H).length) {N : nd_N} (hN : ndL (hoN H) v = N) (hup : N.2.1 = true) (hI : ksI N.1) : hz_Mt κ xX11_give 17 0 0 [.ref 8, .int (nI v), .int (nI 6)] z M (hcP M z H (.int (gvR H v N 6).2.2) (gvH H v N 6)) := by
  refine hz_ent (lo := [(0, .ref 8), (1, .int (nI v)), (2, .int (nI 6))]) (by decide) (Nat.le_of_ble_eq_true rfl) rfl ?_
  have hH := hR.1
  have hNs := hR.2.1
  obtain ⟨hO, hQ, hD⟩ := id hR.2.2.2.2.1
  obtain ⟨g53, h53⟩ := hR.2.2.2.2.2.1
  have hJ := hR.2.2.2.1
  obtain ⟨g56, h56, hT56⟩ := hR.2.2.2.2.2.2.2.2.2.1
  have hdf := hR.2.2.2.2.2.2.2.2.2.2
  have hck : ck_k M z := hJ.2.2.2.2.2.2.2.1
  have hcs : ck_s M := hJ.2.2.2.2.2.2.2.2.1
  have hz63 : 63 ≤ z := by omega
  have hK := hR.2.2.1 v hv
  rw [hN] at hK
  obtain ⟨hn, ⟨gd, hgd, hgD⟩, hT, hC, hP, hL⟩ := id hK
  have hn : M (63 + 34 * v) = ndO (63 + 34 * v) (nI v) (nI 1) (nI (ksN N.1)) (pvI (ksF N.1)) N.2.2.1 N.2.2.2 := by rw [hup] at hn; exact hn
  obtain ⟨g57, h57⟩ := hR.2.2.2.2.2.2.2.2.1
  refine hz_aloadn (pc := 0) 0 (hz_dec kX11_give 0 rfl) rfl ?_
  refine hz_iloadn (pc := 1) 1 (hz_dec kX11_give 1 rfl) rfl ?_
  refine hz_xV (pc := 2) (a := 8) (As := [.int (nI v)]) (st := []) (hz_dec kX11_give 2 rfl) co_X11_162 im_X11_nodeOf se_X11_nodeOf rfl hH (by omega) (by omega) (c_nOf hz63 hH hnn hNs (b := v) hv) rfl (by decide) ⟨Nat.le_refl _, Nat.le_refl _⟩ (Nat.le_of_ble_eq_true rfl) rfl ?_
  refine hz_astoren (pc := 5) (i := 3) (lo2 := [(3, .ref (63 + 34 * v)), (0, .ref 8), (1, .int (nI v)), (2, .int (nI 6))]) (hz_dec kX11_give 3 rfl) rfl (by decide) rfl ?_
  refine hz_aloadn (pc := 6) 0 (hz_dec kX11_give 4 rfl) rfl ?_
  refine hz_ifnull (pc := 7) (hz_dec kX11_give 5 rfl) ?_
  refine hz_iloadn (pc := 10) 3 (hz_dec kX11_give 6 rfl) rfl ?_
  refine hz_iconst (pc := 11) (v := nI 5) (hz_dec kX11_give 7 rfl) (by decide) ?_
  refine hz_n_eq (pc := 12) (tgt := 23) (hz_dec kX11_give 8 rfl) (by decide) (by omega) (by omega) (fun hq1 => ?_) (fun hq1 => ?_)
  · skip
    exact absurd hq1 (by decide)
  · skip
    refine hz_iloadn (pc := 15) 3 (hz_dec kX11_give 9 rfl) rfl ?_
    refine hz_bipush (pc := 16) (v := nI 6) (hz_dec kX11_give 10 rfl) (by decide) ?_
    refine hz_n_eq (pc := 18) (tgt := 23) (hz_dec kX11_give 11 rfl) (by decide) (by omega) (by omega) (fun hq2 => ?_) (fun hq2 => ?_)
    · skip
      refine hz_aloadn (pc := 23) 0 (hz_dec kX11_give 14 rfl) rfl ?_
      refine hz_get (pc := 24) (hz_dec kX11_give 15 rfl) fo_X11_166 hn (by omega) (by omega) rfl ?_
      refine hz_z_ne (pc := 27) (tgt := 33) (hz_dec kX11_give 16 rfl) (by decide) (by omega) (fun hq3 => ?_) (fun hq3 => ?_)
      · skip
        refine hz_aloadn (pc := 33) 1 (hz_dec kX11_give 19 rfl) rfl ?_
        refine hz_get (pc := 34) (hz_dec kX11_give 20 rfl) fo_X11_62 hH (by omega) (by omega) rfl ?_
        refine hz_aloadn (pc := 37) 1 (hz_dec kX11_give 21 rfl) rfl ?_
        refine hz_get (pc := 38) (hz_dec kX11_give 22 rfl) fo_X11_72 hH (by omega) (by omega) rfl ?_
        refine hz_iconst (pc := 41) (v := nI 0) (hz_dec kX11_give 23 rfl) (by decide) ?_
        refine hz_aloadn (pc := 42) 1 (hz_dec kX11_give 24 rfl) rfl ?_
        refine hz_get (pc := 43) (hz_dec kX11_give 25 rfl) fo_X11_124 hH (by omega) (by omega) rfl ?_
        refine hz_callV (pc := 46) (a := 45) (As := [.ref 56, .int (nI 0), .int (nI ((hoT H).length))]) (st := []) (hz_dec kX11_give 26 rfl) co_X11_296 im_X5_hold se_X5_hold rfl hO (by omega) (by omega) (c_hold hz63 hO hnn (at_ := 0) (t := hoT H) h56 (by decide) (by omega) (by decide) (by decide) hT56 (by omega) h53 hT4) rfl (by decide) ⟨Nat.le_refl _, Nat.le_refl _⟩ (Nat.le_of_ble_eq_true rfl) rfl (fun r9 z9 M2 hp9 => ?_)
        obtain ⟨rfl, rfl, hf2, h452, g2, h532, hA2⟩ := hp9
        have hR2 : hcR M2 z H (hoT H).length fr kn := hR.m hf2 h452 ⟨g2, h532⟩
        have hH2 := hR2.1
        have h562 := (hf2.at2 (q := 56) (by omega)).trans h56
        have hn2 := (hf2.at2 (q := 63 + 34 * v) (by omega)).trans hn
        refine hz_aloadn (pc := 49) 1 (hz_dec kX11_give 27 rfl) rfl ?_
        refine hz_get (pc := 50) (hz_dec kX11_give 28 rfl) fo_X11_62 hH2 (by omega) (by omega) rfl ?_
        refine hz_iconst (pc := 53) (v := (-1)) (hz_dec kX11_give 29 rfl) (by decide) ?_
        refine hz_puti (pc := 54) (hz_dec kX11_give 30 rfl) fo_X11_299 ft_X5_11 h452 (by omega) (by omega) (Nat.le_of_ble_eq_true rfl) ?_
        refine hz_mem (pc := 57) (M2 := (va_up M2 45 (.inr (5, [.ref 46, .ref 49, .ref 50, .ref 51, .ref 52, .int (nI ((hoN H).length)), .ref 54, .int (hoW H), .int ((hoQ H).2), .ref 53, .int (nI ((hoT H).length)), .int (-1), .int kn])))) rfl ?_
        refine hz_aloadn (pc := 57) 1 (hz_dec kX11_give 31 rfl) rfl ?_
        refine hz_iconst (pc := 58) (v := nI 0) (hz_dec kX11_give 32 rfl) (by decide) ?_
        refine hz_puti (pc := 59) (hz_dec kX11_give 33 rfl) fo_X11_124 ft_X11_8 (hz_mne hH2 (by omega)) (by omega) (by omega) (Nat.le_of_ble_eq_true rfl) ?_
        refine hz_mem (pc := 62) (M2 := (va_up (va_up M2 45 (.inr (5, [.ref 46, .ref 49, .ref 50, .ref 51, .ref 52, .int (nI ((hoN H).length)), .ref 54, .int (hoW H), .int ((hoQ H).2), .ref 53, .int (nI ((hoT H).length)), .int (-1), .int kn]))) 8 (.inr (11, [.ref 9, .ref 13, .ref 20, .ref 25, .ref 39, .ref 45, .ref 55, .ref 56, .int (nI 0), .int (hoE H), .ref 57, .ref 58, .ref 61])))) rfl ?_
        have hf3 : frS [(45, 46), (53, 54)] M2 (va_up M2 45 (.inr (5, [.ref 46, .ref 49, .ref 50, .ref 51, .ref 52, .int (nI ((hoN H).length)), .ref 54, .int (hoW H), .int ((hoQ H).2), .ref 53, .int (nI ((hoT H).length)), .int (-1), .int kn]))) := ((frS.rf (S := [(45, 46), (53, 54)])).upr (a := 45) (by simp only [outS, and_true]; omega))
        have hR3 : hcR (va_up M2 45 (.inr (5, [.ref 46, .ref 49, .ref 50, .ref 51, .ref 52, .int (nI ((hoN H).length)), .ref 54, .int (hoW H), .int ((hoQ H).2), .ref 53, .int (nI ((hoT H).length)), .int (-1), .int kn]))) z H (hoT H).length (-1) kn := hR2.m hf3 (va_up_self _ _ _) ⟨g2, hz_mne h532 (by decide)⟩
        have hf4 : frS [(8, 9), (56, 57)] (va_up M2 45 (.inr (5, [.ref 46, .ref 49, .ref 50, .ref 51, .ref 52, .int (nI ((hoN H).length)), .ref 54, .int (hoW H), .int ((hoQ H).2), .ref 53, .int (nI ((hoT H).length)), .int (-1), .int kn]))) (va_up (va_up M2 45 (.inr (5, [.ref 46, .ref 49, .ref 50, .ref 51, .ref 52, .int (nI ((hoN H).length)), .ref 54, .int (hoW H), .int ((hoQ H).2), .ref 53, .int (nI ((hoT H).length)), .int (-1), .int kn]))) 8 (.inr (11, [.ref 9, .ref 13, .ref 20, .ref 25, .ref 39, .ref 45, .ref 55, .ref 56, .int (nI 0), .int (hoE H), .ref 57, .ref 58, .ref 61]))) := frS.rf.upr (a := 8) (by simp only [outS, and_true]; omega)
        have hR4 : hcR (va_up (va_up M2 45 (.inr (5, [.ref 46, .ref 49, .ref 50, .ref 51, .ref 52, .int (nI ((hoN H).length)), .ref 54, .int (hoW H), .int ((hoQ H).2), .ref 53, .int (nI ((hoT H).length)), .int (-1), .int kn]))) 8 (.inr (11, [.ref 9, .ref 13, .ref 20, .ref 25, .ref 39, .ref 45, .ref 55, .ref 56, .int (nI 0), .int (hoE H), .ref 57, .ref 58, .ref 61]))) z (hot H [] (hoE H)) (hoT H).length (-1) kn := hR3.t (T := []) hf4 (va_up_self _ _ _) ⟨g56, hz_mne (hz_mne h562 (by decide)) (by decide), isA_nil _ _⟩
        have h534 : (va_up (va_up M2 45 (.inr (5, [.ref 46, .ref 49, .ref 50, .ref 51, .ref 52, .int (nI ((hoN H).length)), .ref 54, .int (hoW H), .int ((hoQ H).2), .ref 53, .int (nI ((hoT H).length)), .int (-1), .int kn]))) 8 (.inr (11, [.ref 9, .ref 13, .ref 20, .ref 25, .ref 39, .ref 45, .ref 55, .ref 56, .int (nI 0), .int (hoE H), .ref 57, .ref 58, .ref 61]))) 53 = .inl (1, 4000, .inl g2) := hz_mne (hz_mne h532 (by decide)) (by decide)
        have hfz : frS [(8, 63 + 34 * (hoN H).length)] M (va_up (va_up M2 45 (.inr (5, [.ref 46, .ref 49, .ref 50, .ref 51, .ref 52, .int (nI ((hoN H).length)), .ref 54, .int (hoW H), .int ((hoQ H).2), .ref 53, .int (nI ((hoT H).length)), .int (-1), .int kn]))) 8 (.inr (11, [.ref 9, .ref 13, .ref 20, .ref 25, .ref 39, .ref 45, .ref 55, .ref 56, .int (nI 0), .int (hoE H), .ref 57, .ref 58, .ref 61]))) := (hf2.mono (fun q (h9 : outS [(8, 63 + 34 * (hoN H).length)] q) => ⟨by have r := h9.1; omega, by have r := h9.1; omega, trivial⟩)).tr ((hf3.mono (fun q (h9 : outS [(8, 63 + 34 * (hoN H).length)] q) => ⟨by have r := h9.1; omega, by have r := h9.1; omega, trivial⟩)).tr (hf4.mono (fun q (h9 : outS [(8, 63 + 34 * (hoN H).length)] q) => ⟨by have r := h9.1; omega, by have r := h9.1; omega, trivial⟩)))
        generalize (va_up (va_up M2 45 (.inr (5, [.ref 46, .ref 49, .ref 50, .ref 51, .ref 52, .int (nI ((hoN H).length)), .ref 54, .int (hoW H), .int ((hoQ H).2), .ref 53, .int (nI ((hoT H).length)), .int (-1), .int kn]))) 8 (.inr (11, [.ref 9, .ref 13, .ref 20, .ref 25, .ref 39, .ref 45, .ref 55, .ref 56, .int (nI 0), .int (hoE H), .ref 57, .ref 58, .ref 61]))) = M4 at *
        obtain ⟨g57, h574⟩ := hR4.2.2.2.2.2.2.2.2.1
        have hH4 := hR4.1
        have hK4 : kcR M4 z (63 + 34 * v) (hoN H).length v 0 (hoE H) (hoW H) (-1) kn N.2.2.1 N.2.2.2 (nI 1) (hoD H) (hoT H).length (ksq N.1 (hoQ H)) := by have q := hR4.kc (v := v) hv; rw [show ndL (hoN (hot H [] (hoE H))) v = N from hN, hup] at q; exact q
        refine hz_iloadn (pc := 62) 3 (hz_dec kX11_give 34 rfl) rfl ?_
        refine hz_iconst (pc := 63) (v := nI 5) (hz_dec kX11_give 35 rfl) (by decide) ?_
        refine hz_n_ne (pc := 64) (tgt := 75) (hz_dec kX11_give 36 rfl) (by decide) (by omega) (by omega) (fun hq4 => ?_) (fun hq4 => ?_)
        · skip
          refine hz_aloadn (pc := 75) 1 (hz_dec kX11_give 41 rfl) rfl ?_
          refine hz_aloadn (pc := 76) 0 (hz_dec kX11_give 42 rfl) rfl ?_
          refine hz_callV (pc := 77) (a := 8) (As := [.ref (63 + 34 * v)]) (st := []) (hz_dec kX11_give 43 rfl) co_X11_306 im_X11_takeTransaction se_X11_takeTransaction rfl hH4 (by omega) (by omega) (c_tkTx (by omega) (by omega) hnn hv (d := 0) (Or.inr ⟨by decide, rfl⟩) hK4 (ksq_I hI) hT4 h534 hA2 h574) rfl (by decide) ⟨Nat.le_refl _, Nat.le_refl _⟩ (Nat.le_of_ble_eq_true rfl) rfl (fun r9 z9 M5 hp9 => ?_)
          obtain ⟨rfl, rfl, hf5_, hK5⟩ := hp9
          have hf5 := hf5_.hoG hv
          have hR5 : hcR M5 z (gvH H v N 6) (hoT H).length (-1) kn := hcR.put hR4 hv hf5 (N := ((gvR H v N 6).1, (gvR H v N 6).2.1, N.2.2)) hK5 ⟨g57, (hf5_.at4 (by omega)).trans h574⟩
          exact hz_iret (pc := 80) (hz_dec kX11_give 44 rfl) rfl ⟨rfl, rfl, hfz.tr (frS.ho hv hf5), _, _, _, hR5⟩
        · skip
          exact absurd hq4 (by decide)
      · skip
        exact absurd hq3 (by decide)
    · skip
      exact absurd hq2 (by decide)
set_option maxHeartbeats 4000000 in
set_option maxRecDepth 100000 in
theorem c_rgive6 {κ : hz_C} {z B : Nat} {M : hz_M} {H : ho_H} (hnn : (hoN H).length ≤ 6) (hT4 : (hoT H).length ≤ 4000) (hR : hmR M z B H) {v : Nat} (hv : v < (hoN H).length) {N : nd_N} (hN : ndL (hoN H) v = N) (hup : N.2.1 = true) (hI : ksI N.1) (hX : hoX H) : hz_Mt κ xX12_give 24 0 0 [.ref B, .int (nI v), .int (nI 6)] z M (hmP M z B (.int (gvR H v N 6).2.2) (gvH H v N 6)) := by
  refine hz_ent (lo := [(0, .ref B), (1, .int (nI v)), (2, .int (nI 6))]) (by decide) (Nat.le_of_ble_eq_true rfl) rfl ?_
  obtain ⟨hk0_, hE0, ⟨m1, m2, m3⟩, hNd, a5, a6, a7, a8⟩ := id hR
  obtain ⟨⟨fs, hO, hF⟩, -, -, h8, hz⟩ := id hk0_
  obtain ⟨x1, x3, x4, x5, x6, x7, x8⟩ := id m3
  have eSt : stI (ndL (hoN H) v).2.1 = nI 0 := by rw [hN, hup]; rfl
  refine hz_aloadn (pc := 0) 0 (hz_dec kX12_give 0 rfl) rfl ?_
  refine hz_iconst (pc := 1) (v := nI 0) (hz_dec kX12_give 1 rfl) (by decide) ?_
  refine hz_puti (pc := 2) (hz_dec kX12_give 2 rfl) fo_X12_302 ft_X12_0 hO h8 (by omega) (by rw [hF.1]; decide) ?_
  have hf1 : mfr B [0, 89] [] M (va_up M B (.inr (12, (List.set fs 0 (.int (nI 0)))))) := (mfr.rf ⟨fs, hO, hF⟩).upO (k := 0) hO hF rfl rfl
  have hR1 : hmR (va_up M B (.inr (12, (List.set fs 0 (.int (nI 0)))))) z B H := hR.m0 hf1 hE0.upO ((fdB_of (va_up_self _ _ _) 89).trans ((List.getElem?_set_ne (by decide)).trans ((fdB_of hO 89).symm.trans x8)))
  generalize (va_up M B (.inr (12, (List.set fs 0 (.int (nI 0)))))) = M1 at *
  obtain ⟨hk1, hE1, ⟨n1, d1, q1⟩, hNd1, a51, a61, a71, a81⟩ := id hR1
  obtain ⟨⟨fs1, hO1, hF1⟩, -, -, -, -⟩ := id hk1
  have g95_1 : fs1[95]? = some (.int (nI ((hoT H).length))) := (fdB_of hO1 95).symm.trans a61
  refine hz_iloadn (pc := 5) 2 (hz_dec kX12_give 3 rfl) rfl ?_
  refine hz_iconst (pc := 6) (v := nI 5) (hz_dec kX12_give 4 rfl) (by decide) ?_
  refine hz_n_eq (pc := 7) (tgt := 18) (hz_dec kX12_give 5 rfl) (by decide) (by omega) (by omega) (fun hq1 => ?_) (fun hq1 => ?_)
  · skip
    exact absurd hq1 (by decide)
  · skip
    refine hz_iloadn (pc := 10) 2 (hz_dec kX12_give 6 rfl) rfl ?_
    refine hz_bipush (pc := 11) (v := nI 6) (hz_dec kX12_give 7 rfl) (by decide) ?_
    refine hz_n_eq (pc := 13) (tgt := 18) (hz_dec kX12_give 8 rfl) (by decide) (by omega) (by omega) (fun hq2 => ?_) (fun hq2 => ?_)
    · skip
      refine hz_aloadn (pc := 18) 0 (hz_dec kX12_give 11 rfl) rfl ?_
      refine hz_iloadn (pc := 19) 1 (hz_dec kX12_give 12 rfl) rfl ?_
      refine hz_xV (pc := 20) (a := B) (As := [.int (nI v)]) (st := []) (hz_dec kX12_give 13 rfl) co_X12_692 im_X12_stateOf se_X12_stateOf rfl hO1 h8 (by omega) (c_st hnn hR1 hv) rfl (by decide) ⟨Nat.le_refl _, Nat.le_refl _⟩ (Nat.le_of_ble_eq_true rfl) rfl ?_
      refine hz_eqi (pc := 23) eSt ?_
      refine hz_istoren (pc := 23) (i := 3) (lo2 := [(3, .int (nI 0)), (0, .ref B), (1, .int (nI v)), (2, .int (nI 6))]) (hz_dec kX12_give 14 rfl) rfl (by decide) rfl ?_
      refine hz_iloadn (pc := 24) 0 (hz_dec kX12_give 15 rfl) rfl ?_
      refine hz_z_ge (pc := 25) (tgt := 30) (hz_dec kX12_give 16 rfl) (by decide) (by omega) ?_
      refine hz_aloadn (pc := 30) 1 (hz_dec kX12_give 19 rfl) rfl ?_
      refine hz_callV (pc := 31) (a := B) (As := []) (st := []) (hz_dec kX12_give 20 rfl) co_X12_702 im_X12_tapeToInbox se_X12_tapeToInbox rfl hO1 h8 (by omega) (c_tTI hk1.1 hE1 h8 hz hT4 a51 a61) rfl (by decide) ⟨Nat.le_refl _, Nat.le_refl _⟩ (Nat.le_of_ble_eq_true rfl) rfl (fun r9 z9 M2 hp9 => ?_)
      obtain ⟨rfl, rfl, hf2, hE2_, h78, h92⟩ := hp9
      have hR2 : hmR M2 z B H := hR1.sc hf2 hE2_ rfl rfl rfl rfl rfl rfl rfl rfl rfl rfl rfl rfl rfl rfl rfl rfl rfl rfl rfl
      obtain ⟨hk2, hE2, ⟨n2, d2, q2⟩, hNd2, a52, a62, a72, a82⟩ := id hR2
      obtain ⟨⟨fs2, hO2, hF2⟩, -, -, -, -⟩ := id hk2
      have g95_2 : fs2[95]? = some (.int (nI ((hoT H).length))) := (fdB_of hO2 95).symm.trans a62
      have g103_2 : fs2[103]? = some (.int (hoE H)) := (fdB_of hO2 103).symm.trans a82
      refine hz_aloadn (pc := 34) 1 (hz_dec kX12_give 21 rfl) rfl ?_
      refine hz_iconst (pc := 35) (v := nI 0) (hz_dec kX12_give 22 rfl) (by decide) ?_
      refine hz_puti (pc := 36) (hz_dec kX12_give 23 rfl) fo_X12_679 ft_X12_95 hO2 h8 (by omega) (by rw [hF2.1]; decide) ?_
      have hf3 : mfr B [95, 103] [80] M2 (va_up M2 B (.inr (12, (List.set fs2 95 (.int (nI 0)))))) := ((mfr.rf (ks := [95, 103]) (os := [80]) hk2.1).upO (k := 95) hO2 hF2 rfl rfl)
      have hE3_ : mdE (va_up M2 B (.inr (12, (List.set fs2 95 (.int (nI 0)))))) B := (hE2.upO)
      have hR3 : hmR (va_up M2 B (.inr (12, (List.set fs2 95 (.int (nI 0)))))) z B (hot H [] (hoE H)) := hR2.t hf3 hE3_ (isA_nil _ _) ((fdB_of (va_up_self _ _ _) 95).trans (List.getElem?_set_self (by rw [hF2.1]; decide))) ((fdB_of (va_up_self _ _ _) 103).trans ((List.getElem?_set_ne (by decide)).trans g103_2))
      generalize (va_up M2 B (.inr (12, (List.set fs2 95 (.int (nI 0)))))) = M3 at *
      obtain ⟨hk3, hE3, ⟨n3, d3, q3⟩, hNd3, a53, a63, a73, a83⟩ := id hR3
      obtain ⟨⟨fs3, hO3, hF3⟩, -, -, -, -⟩ := id hk3
      have hNd3 : ∀ v, v < (hoN H).length → mdN M3 B v (ndL (hoN H) v) := hNd3
      have h0 : mdN M3 B v N := by have q := hNd3 v hv; rw [hN] at q; exact q
      have hv6 : v < 6 := by omega
      have h01 : mnS M3 B v 1 N.1 (pvI (ksF N.1)) (ksP N.1) := by have q := h0.1; rw [hup] at q; exact q
      have h02 : orX (fA M3 B) v (mkO (ksL N.1)) := by have q := h0.2.1; rw [hup] at q; exact q
      obtain ⟨p1, p2, p3, p4, ⟨p5a, p5b, p5c⟩, p6, p7, p9⟩ := id h01
      have hbp := hI.1.p hI.2.1
      obtain ⟨b1, b2, b3, b4, b5, b6, b7, b8⟩ := id hbp
      have h783 : isA (fA M3 B 78) 0 (hoT H) := by rw [fA_m hf3 (by decide) rfl]; exact h78
      have h923 := (hf3.2.2 92 rfl).trans h92
      refine hz_aloadn (pc := 39) 1 (hz_dec kX12_give 24 rfl) rfl ?_
      refine hz_get (pc := 40) (v := .ref (B + 22)) (hz_dec kX12_give 25 rfl) fo_X12_77 hO3 h8 (by omega) (hF3.2 24 (by decide) (by decide)) ?_
      refine hz_iloadn (pc := 43) 2 (hz_dec kX12_give 26 rfl) rfl ?_
      refine hz_iald (pc := 44) (j := v) (hz_dec kX12_give 27 rfl) hE3.a22 (by omega) (by omega) rfl (by omega) (by decide) ?_
      refine hz_eqi (pc := 45) h0.2.2.1 ?_
      refine hz_istore (pc := 45) (i := 4) (lo2 := [(4, .int N.2.2.1), (3, .int (nI 0)), (0, .ref B), (1, .int (nI v)), (2, .int (nI 6))]) (hz_dec kX12_give 28 rfl) (by decide) rfl ?_
      refine hz_aloadn (pc := 47) 2 (hz_dec kX12_give 29 rfl) rfl ?_
      refine hz_get (pc := 48) (v := .ref (B + 23)) (hz_dec kX12_give 30 rfl) fo_X12_80 hO3 h8 (by omega) (hF3.2 25 (by decide) (by decide)) ?_
      refine hz_iloadn (pc := 51) 3 (hz_dec kX12_give 31 rfl) rfl ?_
      refine hz_iald (pc := 52) (j := v) (hz_dec kX12_give 32 rfl) hE3.a23 (by omega) (by omega) rfl (by omega) (by decide) ?_
      refine hz_eqi (pc := 53) h0.2.2.2 ?_
      refine hz_istore (pc := 53) (i := 5) (lo2 := [(5, .int N.2.2.2), (4, .int N.2.2.1), (3, .int (nI 0)), (0, .ref B), (1, .int (nI v)), (2, .int (nI 6))]) (hz_dec kX12_give 33 rfl) (by decide) rfl ?_
      refine hz_aloadn (pc := 55) 3 (hz_dec kX12_give 34 rfl) rfl ?_
      refine hz_iloadn (pc := 56) 4 (hz_dec kX12_give 35 rfl) rfl ?_
      refine hz_iconst (pc := 57) (v := (-1)) (hz_dec kX12_give 36 rfl) (by decide) ?_
      refine hz_iloadn (pc := 58) 5 (hz_dec kX12_give 37 rfl) rfl ?_
      refine hz_callV (pc := 59) (a := B) (As := [.int (nI v), .int (-1), .int (nI 6)]) (st := []) (hz_dec kX12_give 38 rfl) co_X12_705 im_X12_receive se_X12_receive rfl hO3 h8 (by omega) (c_rcv6v hnn hv (d := 0) (Or.inr ⟨by decide, rfl⟩) hk3 hE3 (S := (ksq N.1 (hoQ H))) hR3.2.2.1 h01 h02 (ksq_I hI) hT4 h783 h923) rfl (by decide) ⟨Nat.le_refl _, Nat.le_refl _⟩ (Nat.le_of_ble_eq_true rfl) rfl (fun r9 z9 M4 hp9 => ?_)
      obtain ⟨rfl, -, rfl, hf4, hE4, hag4, hcw4, hmg4, -, -, hu4, hd4⟩ := hp9
      rw [rvS_6] at hmg4 hu4 hd4
      have hmgG : mgR M4 B (hoN H).length (hoW H) (hoD H) (ksQ (gvR H v N 6).1) := hmg4
      have huG : (gvR H v N 6).2.1 = true → mnS M4 B v 1 (gvR H v N 6).1 (pvI (ksF (gvR H v N 6).1)) (ksP (gvR H v N 6).1) ∧ orX (fA M4 B) v (mkO (ksL (gvR H v N 6).1)) := hu4
      have hdG : (gvR H v N 6).2.1 = false → mnS M4 B v 0 (gvR H v N 6).1 (-1) [] ∧ orX (fA M4 B) v [] := hd4
      have hav : (gvR H v N 6).2.2 = if (gvR H v N 6).2.1 = true then nI (ksV (ksq N.1 (hoQ H)) (hoT H)) else -2 := rfl
      obtain ⟨fs4, hO4, hF4⟩ := id hf4.2.1
      clear hmg4 hu4 hd4
      have e16 : fA M4 B 16 v = hz_b (gvR H v N 6).2.1 := by cases hb : (gvR H v N 6).2.1 with
        | true => exact (huG hb).1.1
        | false => exact (hdG hb).1.1
      refine hz_istore (pc := 62) (i := 6) (lo2 := [(6, .int (nI (ksV (ksq N.1 (hoQ H)) (hoT H)))), (5, .int N.2.2.2), (4, .int N.2.2.1), (3, .int (nI 0)), (0, .ref B), (1, .int (nI v)), (2, .int (nI 6))]) (hz_dec kX12_give 39 rfl) (by decide) rfl ?_
      refine hz_aloadn (pc := 64) 4 (hz_dec kX12_give 40 rfl) rfl ?_
      refine hz_get (pc := 65) (v := .ref (B + 22)) (hz_dec kX12_give 41 rfl) fo_X12_77 hO4 h8 (by omega) (hF4.2 24 (by decide) (by decide)) ?_
      refine hz_iloadn (pc := 68) 5 (hz_dec kX12_give 42 rfl) rfl ?_
      refine hz_iload (pc := 69) 2 (hz_dec kX12_give 43 rfl) rfl ?_
      refine hz_iast (pc := 71) (j := v) (hz_dec kX12_give 44 rfl) hE4.a22 (by omega) (by omega) rfl (by omega) (by decide) ?_
      refine hz_aloadn (pc := 72) 4 (hz_dec kX12_give 45 rfl) rfl ?_
      refine hz_get (pc := 73) (v := .ref (B + 23)) (hz_dec kX12_give 46 rfl) fo_X12_80 (hz_mne hO4 (by omega)) h8 (by omega) (hF4.2 25 (by decide) (by decide)) ?_
      refine hz_iloadn (pc := 76) 5 (hz_dec kX12_give 47 rfl) rfl ?_
      refine hz_iload (pc := 77) 1 (hz_dec kX12_give 48 rfl) rfl ?_
      refine hz_iast (pc := 79) (j := v) (hz_dec kX12_give 49 rfl) (hz_mne hE4.a23 (by omega)) (by omega) (by omega) rfl (by omega) (by decide) ?_
      refine hz_aloadn (pc := 80) 4 (hz_dec kX12_give 50 rfl) rfl ?_
      refine hz_get (pc := 81) (v := .ref (B + 16)) (hz_dec kX12_give 51 rfl) fo_X12_57 (hz_mne (hz_mne hO4 (by omega)) (by omega)) h8 (by omega) (hF4.2 18 (by decide) (by decide)) ?_
      refine hz_iloadn (pc := 84) 5 (hz_dec kX12_give 52 rfl) rfl ?_
      refine hz_zald (pc := 85) (j := v) (hz_dec kX12_give 53 rfl) (hz_mne (hz_mne hE4.a16 (by omega)) (by omega)) (by omega) (by omega) rfl (by omega) (by decide) ?_
      refine hz_eqi (pc := 86) e16 ?_
      have hf5 : mfr B [] [22, 23] M4 (va_up (va_up M4 (B + 22) (.inl (0, 6, .inl (upd (fA M4 B 22) v ((N.2.2.1)))))) (B + 23) (.inl (0, 6, .inl (upd (fA M4 B 23) v ((N.2.2.2)))))) := (((mfr.rf (ks := []) (os := [22, 23]) hf4.2.1).upA (o := 22) rfl (by decide)).upA (o := 23) rfl (by decide))
      have hE5 : mdE (va_up (va_up M4 (B + 22) (.inl (0, 6, .inl (upd (fA M4 B 22) v ((N.2.2.1)))))) (B + 23) (.inl (0, 6, .inl (upd (fA M4 B 23) v ((N.2.2.2)))))) B := ((hE4.upA (k := 22) (t := 0) (n := 6) (by decide)).upA (k := 23) (t := 0) (n := 6) (by decide))
      have hag5 : agV M3 (va_up (va_up M4 (B + 22) (.inl (0, 6, .inl (upd (fA M4 B 22) v ((N.2.2.1)))))) (B + 23) (.inl (0, 6, .inl (upd (fA M4 B 23) v ((N.2.2.2)))))) B v := (hag4.upA (o := 22) (s := 1) (by decide) (by decide) (fun x hx => upd_o (by omega))).upA (o := 23) (s := 1) (by decide) (by decide) (fun x hx => by rw [fA_c (va_up_ne _ _ (by omega))]; exact upd_o (by omega))
      have hcw5 : cvW M3 (va_up (va_up M4 (B + 22) (.inl (0, 6, .inl (upd (fA M4 B 22) v ((N.2.2.1)))))) (B + 23) (.inl (0, 6, .inl (upd (fA M4 B 23) v ((N.2.2.2)))))) B v := hcw4.tr (cvK.mf hf5 rfl rfl rfl rfl (bl := []) (en := [])).w
      have e225 : fA (va_up (va_up M4 (B + 22) (.inl (0, 6, .inl (upd (fA M4 B 22) v ((N.2.2.1)))))) (B + 23) (.inl (0, 6, .inl (upd (fA M4 B 23) v ((N.2.2.2)))))) B 22 v = N.2.2.1 := by rw [fA_c (va_up_ne _ _ (by omega)), fA_of (va_up_self _ _ _)]; exact upd_s
      have e235 : fA (va_up (va_up M4 (B + 22) (.inl (0, 6, .inl (upd (fA M4 B 22) v ((N.2.2.1)))))) (B + 23) (.inl (0, 6, .inl (upd (fA M4 B 23) v ((N.2.2.2)))))) B 23 v = N.2.2.2 := by rw [fA_of (va_up_self _ _ _)]; exact upd_s
      have hN5 : mdN (va_up (va_up M4 (B + 22) (.inl (0, 6, .inl (upd (fA M4 B 22) v ((N.2.2.1)))))) (B + 23) (.inl (0, 6, .inl (upd (fA M4 B 23) v ((N.2.2.2)))))) B v ((gvR H v N 6).1, (gvR H v N 6).2.1, N.2.2) := by
        cases hb : (gvR H v N 6).2.1 with
        | true => exact ⟨(huG hb).1.mf hf5 rfl rfl, (huG hb).2.mf hf5 rfl, e225, e235⟩
        | false => exact ⟨(hdG hb).1.mf hf5 rfl rfl, (hdG hb).2.mf hf5 rfl, e225, e235⟩
      have hf35 : mfr B [16, 39, 53, 54, 55, 59, 61, 86, 87, 88] [3, 4, 5, 6, 7, 8, 9, 10, 11, 12, 13, 14, 15, 16, 17, 18, 19, 20, 21, 22, 23, 24, 25, 26, 27, 28, 29, 30, 31, 32, 33, 35, 36, 37, 38, 39, 40, 41, 42, 43, 44, 45, 46, 47, 48, 49, 50, 51, 52, 53, 54, 55, 56, 57, 58, 59, 60, 61, 62, 63, 64, 65, 66, 67, 68, 70, 71, 72, 73, 74, 75, 76, 77, 79] M3 (va_up (va_up M4 (B + 22) (.inl (0, 6, .inl (upd (fA M4 B 22) v ((N.2.2.1)))))) (B + 23) (.inl (0, 6, .inl (upd (fA M4 B 23) v ((N.2.2.2)))))) := hf4.tr (hf5.mono rfl rfl)
      have hR5 : hmR (va_up (va_up M4 (B + 22) (.inl (0, 6, .inl (upd (fA M4 B 22) v ((N.2.2.1)))))) (B + 23) (.inl (0, 6, .inl (upd (fA M4 B 23) v ((N.2.2.2)))))) z B (gvH H v N 6) := hR3.put hnn hv hX.1 hf35 rfl rfl rfl rfl rfl rfl rfl rfl rfl rfl rfl rfl rfl hE5 hag5 hcw5 (q := ksQ (gvR H v N 6).1) (hmgG.mf hf5 rfl rfl) hN5
      have hfz : frM B M (va_up (va_up M4 (B + 22) (.inl (0, 6, .inl (upd (fA M4 B 22) v ((N.2.2.1)))))) (B + 23) (.inl (0, 6, .inl (upd (fA M4 B 23) v ((N.2.2.2)))))) := (((hf1.S rfl).tr (hf2.S rfl)).tr (hf3.S rfl)).tr (hf35.S rfl)
      refine hz_if_eq (pc := 86) (tgt := 94) (hz_dec kX12_give 54 rfl) (by decide) (fun h7 => ?_) (fun h7 => ?_)
      · skip
        have e7 := hz_b0 h7
        refine hz_bipush (pc := 94) (v := (-2)) (hz_dec kX12_give 57 rfl) (by decide) ?_
        exact hz_iret (pc := 96) (hz_dec kX12_give 58 rfl) rfl ⟨by rw [hav, e7]; rfl, rfl, hfz, hR5⟩
      · skip
        have e7 := hz_b1 h7
        refine hz_iload (pc := 89) 0 (hz_dec kX12_give 55 rfl) rfl ?_
        refine hz_goto (pc := 91) (tgt := 96) (hz_dec kX12_give 56 rfl) (by decide) ?_
        exact hz_iret (pc := 96) (hz_dec kX12_give 58 rfl) rfl ⟨by rw [hav, e7]; rfl, rfl, hfz, hR5⟩
    · skip
      exact absurd hq2 (by decide)
