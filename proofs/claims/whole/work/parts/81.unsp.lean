/-! the reference: unspentBehind -/
theorem sp_8 {M : hz_M} {B : Nat} {f2 f5 f6 ch g : Nat → Int32} (h2 : M (B + 44) = .inl (0, 5000, .inl f2)) (h5 : M (B + 47) = .inl (0, 5000, .inl f5)) (h6 : M (B + 48) = .inl (3, 5000, .inl f6)) (hc : M (B + 49) = .inl (0, 128, .inl ch)) (hg : M (B + 50) = .inl (1, 4000, .inl g)) : ∀ p ∈ mdS, [43, 44, 45, 46, 47, 48, 49, 50].elem p.1 = true → ∃ g : Nat → Int32, M (B + p.1) = .inl (p.2.1, p.2.2, .inl g) := by
  intro p hp he
  have q : ∀ p ∈ mdS, [43, 44, 45, 46, 47, 48, 49, 50].elem p.1 = true → p = (44, 0, 5000) ∨ p = (47, 0, 5000) ∨ p = (48, 3, 5000) ∨ p = (49, 0, 128) ∨ p = (50, 1, 4000) := by decide +kernel
  rcases q p hp he with rfl | rfl | rfl | rfl | rfl
  · exact ⟨_, h2⟩
  · exact ⟨_, h5⟩
  · exact ⟨_, h6⟩
  · exact ⟨_, hc⟩
  · exact ⟨_, hg⟩
theorem sp_8L {M : hz_M} {B : Nat} {f1 f3 f4 : Nat → Int64} (h1 : M (B + 43) = .inl (2, 5000, .inr (.inl f1))) (h3 : M (B + 45) = .inl (2, 5000, .inr (.inl f3))) (h4 : M (B + 46) = .inl (2, 5000, .inr (.inl f4))) : ∀ p ∈ mdL, [43, 44, 45, 46, 47, 48, 49, 50].elem p.1 = true → ∃ g : Nat → Int64, M (B + p.1) = .inl (2, p.2, .inr (.inl g)) := by
  intro p hp he
  have q : ∀ p ∈ mdL, [43, 44, 45, 46, 47, 48, 49, 50].elem p.1 = true → p = (43, 5000) ∨ p = (45, 5000) ∨ p = (46, 5000) := by decide +kernel
  rcases q p hp he with rfl | rfl | rfl
  · exact ⟨_, h1⟩
  · exact ⟨_, h3⟩
  · exact ⟨_, h4⟩
theorem ne_off {B c : Nat} {os : List Nat} (h : os.all (fun o => decide (¬ o = c)) = true) : ∀ o ∈ os, B + c ≠ B + o := by
  intro o ho e
  have q := of_decide_eq_true (List.all_eq_true.mp h o ho)
  omega
set_option maxHeartbeats 4000000 in
set_option maxRecDepth 100000 in
theorem c_un_i {κ : hz_C} {z : Nat} {M0 : hz_M} {B : Nat} (hO_ : md_O M0 B) (hE : mdE M0 B) (h8 : 8 ≤ B) (hz : B + 88 ≤ z) {v tip : Nat} {bl : List bk_B} {en : List en_E} (hv : v < 6) (hnb : bl.length ≤ 128) (hlen : bl.length ≤ en.length) (hR : rvX (fA M0 B) v bl.length en) (hN : nbX (fA M0 B) (fL M0 B) v bl tip) (hwf : wfE en) (hbx : blX bl) (h24 : ∀ k, k < bl.length → (bBy bl k).length ≤ 200 ∨ fA M0 B 24 (128 * v + k) ≠ -1) {x : Nat} (hx : x < bl.length) (hcb : cbX bl en x) {P : hz_P} {q : Nat} (hq : q ≤ eH en x) (K9 : ∀ M, mfr B [53, 54] [43, 44, 45, 46, 47, 48, 49, 50] M0 M → (∃ ch : Nat → Int32, M (B + 49) = .inl (0, 128, .inl ch) ∧ ∀ i, i ≤ eH en x → ch i = nI (upE en x i)) → (∃ g : Nat → Int32, M (B + 50) = .inl (1, 4000, .inl g)) → mcR M B (coC bl en x (eH en x - q + 1)) → hz_W κ xX12_unspentBehind 3 0 0 P 0 0 173 [(4, .int (nI q)), (0, .ref B), (1, .int (nI v)), (2, .int (nI x))] [] z M) : ∀ k j M, k = bkN (bBy bl (upE en x q)) - j → j ≤ bkN (bBy bl (upE en x q)) → mfr B [53, 54] [43, 44, 45, 46, 47, 48, 49, 50] M0 M → (∃ ch : Nat → Int32, M (B + 49) = .inl (0, 128, .inl ch) ∧ ∀ i, i ≤ eH en x → ch i = nI (upE en x i)) → (∃ g : Nat → Int32, M (B + 50) = .inl (1, 4000, .inl g) ∧ isA g 0 (bBy bl (upE en x q))) → mcR M B (coTs (bBy bl (upE en x q)) (eH en x - q) (coC bl en x (eH en x - q)) j) → hz_W κ xX12_unspentBehind 3 0 0 P 0 0 101 [(7, .int (nI j)), (6, .int (nI (bkS (bBy bl (upE en x q)) j))), (5, .int (nI (128 * v + upE en x q))), (4, .int (nI q)), (0, .ref B), (1, .int (nI v)), (2, .int (nI x))] [] z M := by
  intro k
  induction k using Nat.strongRecOn with
  | ind k ih =>
  intro j M hk hj hfr h49 h50 hc
  obtain ⟨fs, hO, hF⟩ := id hfr.2.1
  have hup := hwf.up (k := x) (by omega) q hq
  have hNx := hN.2.2 (upE en x q) (by omega)
  have hRx := (hR (upE en x q) (by omega)).1 (by omega)
  have hbW := hbx (upE en x q) (by omega)
  have hlen9 := hbW.len
  obtain ⟨hbf1, hbf2, hbf3, hbf4, hbf5, hbf6, hbf7⟩ := hbW.f
  have hxe := hwf.ht (k := x) (by omega)
  have hch9 : chE en x (eH en x - q) = upE en x q := by unfold chE; rw [show eH en x - (eH en x - q) = q by omega]
  obtain ⟨g, hg, hgA⟩ := id h50
  have hcb9 := hcb (eH en x - q) (by omega) j (by rw [hch9]; exact hj)
  rw [hch9] at hcb9
  refine hz_iload (pc := 101) 0 (hz_dec kX12_unspentBehind 56 rfl) rfl ?_
  refine hz_aloadn (pc := 103) 4 (hz_dec kX12_unspentBehind 57 rfl) rfl ?_
  refine hz_get (pc := 104) (v := .ref (B + 32)) (hz_dec kX12_unspentBehind 58 rfl) fo_X12_107 hO h8 (by omega) (hF.2 34 (by decide) (by decide)) ?_
  refine hz_iload (pc := 107) 2 (hz_dec kX12_unspentBehind 59 rfl) rfl ?_
  refine hz_iald (pc := 109) (j := 128 * v + upE en x q) (hz_dec kX12_unspentBehind 60 rfl) ((hfr.at 32 (by decide) rfl).trans hE.a32) (by omega) (by omega) rfl (by omega) (by decide) ?_
  refine hz_eqi (pc := 110) hNx.2.2.2.1 ?_
  refine hz_n_ge (pc := 110) (tgt := 173) (hz_dec kX12_unspentBehind 61 rfl) (by decide) (by omega) (by omega) (fun h1 => ?_) (fun h1 => ?_)
  · skip
    have e : j = bkN (bBy bl (upE en x q)) := by omega
    refine hz_pick (pc := 173) [3, 4, 5, 6] rfl ?_
    refine K9 M hfr h49 ⟨g, hg⟩ ?_
    rw [e] at hc
    show mcR M B (coTs (bBy bl (chE en x (eH en x - q))) _ _ _)
    rw [hch9]
    exact hc
  · skip
    obtain ⟨t1, t2, t3, t4, t5⟩ := hbW.t h1
    have tA : isA g (bkS (bBy bl (upE en x q)) j) (bkT (bBy bl (upE en x q)) j) := by have r := hbW.A hgA h1; rw [Nat.zero_add] at r; exact r
    refine hz_aloadn (pc := 113) 4 (hz_dec kX12_unspentBehind 62 rfl) rfl ?_
    refine hz_aloadn (pc := 114) 4 (hz_dec kX12_unspentBehind 63 rfl) rfl ?_
    refine hz_get (pc := 115) (v := .ref (B + 50)) (hz_dec kX12_unspentBehind 64 rfl) fo_X12_168 hO h8 (by omega) (hF.2 57 (by decide) (by decide)) ?_
    refine hz_iload (pc := 118) 1 (hz_dec kX12_unspentBehind 65 rfl) rfl ?_
    refine hz_aloadn (pc := 120) 4 (hz_dec kX12_unspentBehind 66 rfl) rfl ?_
    refine hz_get (pc := 121) (v := .ref (B + 33)) (hz_dec kX12_unspentBehind 67 rfl) fo_X12_110 hO h8 (by omega) (hF.2 35 (by decide) (by decide)) ?_
    refine hz_bipush (pc := 124) (v := nI 8) (hz_dec kX12_unspentBehind 68 rfl) (by decide) ?_
    refine hz_iload (pc := 126) 2 (hz_dec kX12_unspentBehind 69 rfl) rfl ?_
    refine hz_mulN (pc := 128) (hz_dec kX12_unspentBehind 70 rfl) ?_
    refine hz_iload (pc := 129) 0 (hz_dec kX12_unspentBehind 71 rfl) rfl ?_
    refine hz_addN (pc := 131) (hz_dec kX12_unspentBehind 72 rfl) ?_
    refine hz_lald (pc := 132) (j := (8 * (128 * v + upE en x q)) + j) (hz_dec kX12_unspentBehind 73 rfl) ((hfr.at 33 (by decide) rfl).trans hE.a33) (by omega) (by omega) rfl (by omega) (by decide) ?_
    refine hz_eql (pc := 133) (hNx.2.2.2.2.1 j h1) ?_
    refine hz_aloadn (pc := 133) 4 (hz_dec kX12_unspentBehind 74 rfl) rfl ?_
    refine hz_get (pc := 134) (v := .ref (B + 27)) (hz_dec kX12_unspentBehind 75 rfl) fo_X12_92 hO h8 (by omega) (hF.2 29 (by decide) (by decide)) ?_
    refine hz_iload (pc := 137) 2 (hz_dec kX12_unspentBehind 76 rfl) rfl ?_
    refine hz_iald (pc := 139) (j := 128 * v + upE en x q) (hz_dec kX12_unspentBehind 77 rfl) ((hfr.at 27 (by decide) rfl).trans hE.a27) (by omega) (by omega) rfl (by omega) (by decide) ?_
    refine hz_eqi (pc := 140) (show _ = nI (eH en x - q) by rw [hRx.2.1]; congr 1; omega) ?_
    refine hz_callV (pc := 140) (a := B) (As := [.ref (B + 50), .int (nI (bkS (bBy bl (upE en x q)) j)), .long (idS (bkT (bBy bl (upE en x q)) j)), .int (nI (eH en x - q))]) (st := []) (hz_dec kX12_unspentBehind 78 rfl) co_X12_505 im_X12_spendOf se_X12_spendOf rfl hO h8 (by omega) (c_mcSp hc h8 hz hg (by omega) (by omega) (by decide) tA (by omega) t2 (ne_off (by decide)) (by omega)) rfl (by decide) ⟨Nat.le_refl _, Nat.le_refl _⟩ (Nat.le_of_ble_eq_true rfl) rfl (fun r9 z9 M2 hp9 => ?_)
    obtain ⟨rfl, rfl, hf2, hc2, -⟩ := hp9
    have hfr2 : mfr B [53, 54] [43, 44, 45, 46, 47, 48, 49, 50] M0 M2 := hfr.tr (hf2.mono rfl rfl)
    have hgb : M2 (B + 50) = .inl (1, 4000, .inl g) := (hf2.at 50 (by decide) rfl).trans hg
    obtain ⟨fs2, hO2, hF2⟩ := id hfr2.2.1
    refine hz_iload (pc := 143) 1 (hz_dec kX12_unspentBehind 79 rfl) rfl ?_
    refine hz_aloadn (pc := 145) 4 (hz_dec kX12_unspentBehind 80 rfl) rfl ?_
    refine hz_get (pc := 146) (v := .ref (B + 50)) (hz_dec kX12_unspentBehind 81 rfl) fo_X12_168 hO2 h8 (by omega) (hF2.2 57 (by decide) (by decide)) ?_
    refine hz_iload (pc := 149) 1 (hz_dec kX12_unspentBehind 82 rfl) rfl ?_
    refine hz_aloadn (pc := 151) 4 (hz_dec kX12_unspentBehind 83 rfl) rfl ?_
    refine hz_get (pc := 152) (v := .ref (B + 25)) (hz_dec kX12_unspentBehind 84 rfl) fo_X12_86 hO2 h8 (by omega) (hF2.2 27 (by decide) (by decide)) ?_
    refine hz_iload (pc := 155) 2 (hz_dec kX12_unspentBehind 85 rfl) rfl ?_
    refine hz_iald (pc := 157) (j := 128 * v + upE en x q) (hz_dec kX12_unspentBehind 86 rfl) ((hfr2.at 25 (by decide) rfl).trans hE.a25) (by omega) (by omega) rfl (by omega) (by decide) ?_
    refine hz_eqi (pc := 158) hNx.1 ?_
    refine hz_iload (pc := 158) 1 (hz_dec kX12_unspentBehind 87 rfl) rfl ?_
    refine hz_subN (pc := 160) (hz_dec kX12_unspentBehind 88 rfl) (by omega) ?_
    refine hz_xS (pc := 161) (As := [.ref (B + 50), .int (nI (bkS (bBy bl (upE en x q)) j)), .int (nI (((bBy bl (upE en x q)).length) - (bkS (bBy bl (upE en x q)) j)))]) (st := [.int (nI (bkS (bBy bl (upE en x q)) j))]) (hz_dec kX12_unspentBehind 89 rfl) co_X12_405 sc_X12_transactionSize (c_mts hgb (by omega) (by omega) (by decide) (by omega)) rfl (by decide) ⟨Nat.le_refl _, Nat.le_refl _⟩ (Nat.le_of_ble_eq_true rfl) rfl ?_
    refine hz_eqi (pc := 164) (show _ = nI (bkT (bBy bl (upE en x q)) j).length by unfold md_ts; rw [show bkS (bBy bl (upE en x q)) j + ((bBy bl (upE en x q)).length - bkS (bBy bl (upE en x q)) j) = 0 + (bBy bl (upE en x q)).length by omega, show bkS (bBy bl (upE en x q)) j = 0 + bkS (bBy bl (upE en x q)) j from (Nat.zero_add _).symm, tx_len_sh hgA (by omega), t5, if_neg (fun q9 => t2.2 q9)]) ?_
    refine hz_addN (pc := 164) (hz_dec kX12_unspentBehind 90 rfl) ?_
    refine hz_eqi (pc := 165) (show _ = nI (bkS (bBy bl (upE en x q)) (j + 1)) by rw [t1]) ?_
    refine hz_istore (pc := 165) (i := 6) (lo2 := [(6, .int (nI (bkS (bBy bl (upE en x q)) (j + 1)))), (7, .int (nI j)), (5, .int (nI (128 * v + upE en x q))), (4, .int (nI q)), (0, .ref B), (1, .int (nI v)), (2, .int (nI x))]) (hz_dec kX12_unspentBehind 91 rfl) (by decide) rfl ?_
    refine hz_incN (pc := 167) (i := 7) (lo2 := [(7, .int (nI (j + 1))), (6, .int (nI (bkS (bBy bl (upE en x q)) (j + 1)))), (5, .int (nI (128 * v + upE en x q))), (4, .int (nI q)), (0, .ref B), (1, .int (nI v)), (2, .int (nI x))]) 1 (hz_dec kX12_unspentBehind 92 rfl) rfl (by decide) rfl ?_
    refine hz_goto (pc := 170) (tgt := 101) (hz_dec kX12_unspentBehind 93 rfl) (by decide) ?_
    refine hz_pick (pc := 101) [0, 1, 2, 3, 4, 5, 6] rfl ?_
    obtain ⟨ch, hch, hchX⟩ := h49
    exact ih (bkN (bBy bl (upE en x q)) - (j + 1)) (by omega) (j + 1) M2 rfl (by omega) hfr2 ⟨ch, (hf2.at 49 (by decide) rfl).trans hch, hchX⟩ ⟨g, hgb, hgA⟩ hc2
set_option maxHeartbeats 4000000 in
set_option maxRecDepth 100000 in
theorem c_un_e {κ : hz_C} {z : Nat} {M0 : hz_M} {B : Nat} (hO_ : md_O M0 B) (hE : mdE M0 B) (h8 : 8 ≤ B) (hz : B + 88 ≤ z) {v tip : Nat} {bl : List bk_B} {en : List en_E} (hv : v < 6) (hnb : bl.length ≤ 128) (hlen : bl.length ≤ en.length) (hR : rvX (fA M0 B) v bl.length en) (hN : nbX (fA M0 B) (fL M0 B) v bl tip) (hwf : wfE en) (hbx : blX bl) (h24 : ∀ k, k < bl.length → (bBy bl k).length ≤ 200 ∨ fA M0 B 24 (128 * v + k) ≠ -1) {x : Nat} (hx : x < bl.length) (hcb : cbX bl en x) {M : hz_M} (hfr : mfr B [53, 54] [43, 44, 45, 46, 47, 48, 49, 50] M0 M) (h49 : (∃ ch : Nat → Int32, M (B + 49) = .inl (0, 128, .inl ch) ∧ ∀ i, i ≤ eH en x → ch i = nI (upE en x i))) (h50 : (∃ g : Nat → Int32, M (B + 50) = .inl (1, 4000, .inl g))) (hc : mcR M B (coAt bl en x)) : hz_W κ xX12_unspentBehind 3 0 0 (fun r z2 M2 => none = r ∧ z = z2 ∧ mfr B [53, 54, 55] [43, 44, 45, 46, 47, 48, 49, 50] M0 M2 ∧ (∃ g : Nat → Int32, M2 (B + 50) = .inl (1, 4000, .inl g)) ∧ (∃ g : Nat → Int32, M2 (B + 49) = .inl (0, 128, .inl g)) ∧ mcR M2 B (coAt bl en x) ∧ fdB M2 B 54 = some (.int (nI v)) ∧ fdB M2 B 55 = some (.int (nI x))) 0 0 64 [(4, .int (-1)), (0, .ref B), (1, .int (nI v)), (2, .int (nI x))] [] z M := by
  obtain ⟨fs, hO, hF⟩ := id hfr.2.1
  obtain ⟨ch, hch, -⟩ := h49
  obtain ⟨g, hg⟩ := h50
  refine hz_iload (pc := 64) 0 (hz_dec kX12_unspentBehind 36 rfl) rfl ?_
  refine hz_if_lt (pc := 66) (tgt := 179) (hz_dec kX12_unspentBehind 37 rfl) (by decide) (fun h1 => ?_) (fun h1 => ?_)
  · skip
    refine hz_aloadn (pc := 179) 1 (hz_dec kX12_unspentBehind 96 rfl) rfl ?_
    refine hz_iloadn (pc := 180) 2 (hz_dec kX12_unspentBehind 97 rfl) rfl ?_
    refine hz_puti (pc := 181) (hz_dec kX12_unspentBehind 98 rfl) fo_X12_158 ft_X12_54 hO h8 (by omega) (by rw [hF.1]; decide) ?_
    refine hz_aloadn (pc := 184) 1 (hz_dec kX12_unspentBehind 99 rfl) rfl ?_
    refine hz_iloadn (pc := 185) 3 (hz_dec kX12_unspentBehind 100 rfl) rfl ?_
    refine hz_puti (pc := 186) (hz_dec kX12_unspentBehind 101 rfl) fo_X12_162 ft_X12_55 (va_up_self _ _ _) h8 (by omega) (by rw [(md_set hF rfl).1]; decide) ?_
    have hA1 : mfr B [54] [] M (va_up M B (.inr (12, fs.set 54 (.int (nI v))))) := (mfr.rf ⟨fs, hO, hF⟩).upO hO hF rfl rfl
    have hA2 : mfr B [54, 55] [] M (va_up (va_up M B (.inr (12, (List.set fs 54 (.int (nI v)))))) B (.inr (12, (List.set (List.set fs 54 (.int (nI v))) 55 (.int (nI x)))))) := (hA1.mono rfl rfl).upO (k := 55) (va_up_self _ _ _) (md_set hF rfl) rfl rfl
    refine hz_vret (pc := 189) (hz_dec kX12_unspentBehind 102 rfl) rfl ⟨rfl, rfl, (hfr.mono rfl rfl).tr (hA2.mono rfl rfl), ⟨g, (hA2.at 50 (by decide) rfl).trans hg⟩, ⟨ch, (hA2.at 49 (by decide) rfl).trans hch⟩, hc.fr hA2 rfl rfl, ?_, ?_⟩
    · rw [fdB_of (va_up_self _ _ _), List.getElem?_set_ne (by decide), List.getElem?_set_self (by rw [hF.1]; decide)]
    · rw [fdB_of (va_up_self _ _ _), List.getElem?_set_self (by rw [List.length_set, hF.1]; decide)]
  · skip
    exact absurd (by decide) h1
set_option maxHeartbeats 4000000 in
set_option maxRecDepth 100000 in
theorem c_un_o {κ : hz_C} {z : Nat} {M0 : hz_M} {B : Nat} (hO_ : md_O M0 B) (hE : mdE M0 B) (h8 : 8 ≤ B) (hz : B + 88 ≤ z) {v tip : Nat} {bl : List bk_B} {en : List en_E} (hv : v < 6) (hnb : bl.length ≤ 128) (hlen : bl.length ≤ en.length) (hR : rvX (fA M0 B) v bl.length en) (hN : nbX (fA M0 B) (fL M0 B) v bl tip) (hwf : wfE en) (hbx : blX bl) (h24 : ∀ k, k < bl.length → (bBy bl k).length ≤ 200 ∨ fA M0 B 24 (128 * v + k) ≠ -1) {x : Nat} (hx : x < bl.length) (hcb : cbX bl en x) : ∀ q M, q ≤ eH en x → mfr B [53, 54] [43, 44, 45, 46, 47, 48, 49, 50] M0 M → (∃ ch : Nat → Int32, M (B + 49) = .inl (0, 128, .inl ch) ∧ ∀ i, i ≤ eH en x → ch i = nI (upE en x i)) → (∃ g : Nat → Int32, M (B + 50) = .inl (1, 4000, .inl g)) → mcR M B (coC bl en x (eH en x - q)) → hz_W κ xX12_unspentBehind 3 0 0 (fun r z2 M2 => none = r ∧ z = z2 ∧ mfr B [53, 54, 55] [43, 44, 45, 46, 47, 48, 49, 50] M0 M2 ∧ (∃ g : Nat → Int32, M2 (B + 50) = .inl (1, 4000, .inl g)) ∧ (∃ g : Nat → Int32, M2 (B + 49) = .inl (0, 128, .inl g)) ∧ mcR M2 B (coAt bl en x) ∧ fdB M2 B 54 = some (.int (nI v)) ∧ fdB M2 B 55 = some (.int (nI x))) 0 0 64 [(4, .int (nI q)), (0, .ref B), (1, .int (nI v)), (2, .int (nI x))] [] z M := by
  intro q
  induction q with
  | zero =>
    intro M hq hfr h49 h50 hc
    obtain ⟨fs, hO, hF⟩ := id hfr.2.1
    have hup := hwf.up (k := x) (by omega) (0) hq
    have hxe := hwf.ht (k := x) (by omega)
    obtain ⟨ch, hch, hchX⟩ := id h49
    obtain ⟨g50, hg50⟩ := id h50
    obtain ⟨-, -, -, cf1, cf2, cf3, cf4, cf5, cf6, cg1, cg2, cg3, cg4, cg5, cg6, -⟩ := id hc
    have hEM : mdE M B := hE.fr hfr (sp_8 cg2 cg5 cg6 hch hg50) (sp_8L cg1 cg3 cg4)
    have eA : ∀ o, [43, 44, 45, 46, 47, 48, 49, 50].elem o = false → ¬ o = 0 → fA M B o = fA M0 B o := fun o ho h0 => fA_c (hfr.at o h0 ho)
    have eL : ∀ o, [43, 44, 45, 46, 47, 48, 49, 50].elem o = false → ¬ o = 0 → fL M B o = fL M0 B o := fun o ho h0 => fL_c (hfr.at o h0 ho)
    have hNM : nbX (fA M B) (fL M B) v bl tip := by unfold nbX; rw [eA 20 rfl (by decide), eA 21 rfl (by decide), eA 25 rfl (by decide), eA 30 rfl (by decide), eA 31 rfl (by decide), eA 32 rfl (by decide), eA 24 rfl (by decide), eA 34 rfl (by decide), eA 51 rfl (by decide), eL 33 rfl (by decide)]; exact hN
    have hszM : (bBy bl (upE en x (0))).length ≤ 200 ∨ fA M B 24 (128 * v + upE en x (0)) ≠ -1 := by rw [eA 24 rfl (by decide)]; exact h24 _ (by omega)
    have hlen9 := (hbx (upE en x (0)) (by omega)).len
    refine hz_iload (pc := 64) 0 (hz_dec kX12_unspentBehind 36 rfl) rfl ?_
    refine hz_z_lt (pc := 66) (tgt := 179) (hz_dec kX12_unspentBehind 37 rfl) (by decide) (by omega) ?_
    refine hz_iloadn (pc := 69) 2 (hz_dec kX12_unspentBehind 38 rfl) rfl ?_
    refine hz_aloadn (pc := 70) 1 (hz_dec kX12_unspentBehind 39 rfl) rfl ?_
    refine hz_get (pc := 71) (v := .ref (B + 49)) (hz_dec kX12_unspentBehind 40 rfl) fo_X12_165 hO h8 (by omega) (hF.2 56 (by decide) (by decide)) ?_
    refine hz_iload (pc := 74) 0 (hz_dec kX12_unspentBehind 41 rfl) rfl ?_
    refine hz_iald (pc := 76) (j := 0) (hz_dec kX12_unspentBehind 42 rfl) hch (by omega) (by omega) rfl (by omega) (by decide) ?_
    refine hz_eqi (pc := 77) (hchX (0) (by omega)) ?_
    refine hz_xS (pc := 77) (As := [.int (nI v), .int (nI (upE en x (0)))]) (st := []) (hz_dec kX12_unspentBehind 43 rfl) co_X12_419 sc_X12_at0 (c_at0) rfl (by decide) ⟨Nat.le_refl _, Nat.le_refl _⟩ (Nat.le_of_ble_eq_true rfl) rfl ?_
    refine hz_istore (pc := 80) (i := 5) (lo2 := [(5, .int (nI (128 * v + upE en x (0)))), (4, .int (nI 0)), (0, .ref B), (1, .int (nI v)), (2, .int (nI x))]) (hz_dec kX12_unspentBehind 44 rfl) (by decide) rfl ?_
    refine hz_aloadn (pc := 82) 2 (hz_dec kX12_unspentBehind 45 rfl) rfl ?_
    refine hz_iloadn (pc := 83) 3 (hz_dec kX12_unspentBehind 46 rfl) rfl ?_
    refine hz_aloadn (pc := 84) 2 (hz_dec kX12_unspentBehind 47 rfl) rfl ?_
    refine hz_get (pc := 85) (v := .ref (B + 49)) (hz_dec kX12_unspentBehind 48 rfl) fo_X12_165 hO h8 (by omega) (hF.2 56 (by decide) (by decide)) ?_
    refine hz_iload (pc := 88) 1 (hz_dec kX12_unspentBehind 49 rfl) rfl ?_
    refine hz_iald (pc := 90) (j := 0) (hz_dec kX12_unspentBehind 50 rfl) hch (by omega) (by omega) rfl (by omega) (by decide) ?_
    refine hz_eqi (pc := 91) (hchX (0) (by omega)) ?_
    refine hz_callV (pc := 91) (a := B) (As := [.int (nI v), .int (nI (upE en x (0)))]) (st := []) (hz_dec kX12_unspentBehind 51 rfl) co_X12_501 im_X12_bring2 se_X12_bring2 rfl hO h8 (by omega) (c_br2 (M := M) hfr.2.1 hEM h8 hz hv hnb hNM (x := upE en x (0)) (by omega) hszM (by omega)) rfl (by decide) ⟨Nat.le_refl _, Nat.le_refl _⟩ (Nat.le_of_ble_eq_true rfl) rfl (fun r9 z9 M9 hp9 => ?_)
    obtain ⟨rfl, rfl, g2, hg2, rfl⟩ := hp9
    refine hz_bipush (pc := 94) (v := nI 81) (hz_dec kX12_unspentBehind 52 rfl) (by decide) ?_
    refine hz_istore (pc := 96) (i := 6) (lo2 := [(6, .int (nI 81)), (5, .int (nI (128 * v + upE en x (0)))), (4, .int (nI 0)), (0, .ref B), (1, .int (nI v)), (2, .int (nI x))]) (hz_dec kX12_unspentBehind 53 rfl) (by decide) rfl ?_
    refine hz_iconst (pc := 98) (v := nI 0) (hz_dec kX12_unspentBehind 54 rfl) (by decide) ?_
    refine hz_istore (pc := 99) (i := 7) (lo2 := [(7, .int (nI 0)), (6, .int (nI 81)), (5, .int (nI (128 * v + upE en x (0)))), (4, .int (nI 0)), (0, .ref B), (1, .int (nI v)), (2, .int (nI x))]) (hz_dec kX12_unspentBehind 55 rfl) (by decide) rfl ?_
    refine hz_pick (pc := 101) [0, 1, 2, 3, 4, 5, 6] rfl ?_
    refine c_un_i hO_ hE h8 hz hv hnb hlen hR hN hwf hbx h24 hx hcb (q := 0) hq (fun M2 hfr2 h492 h502 hc2 => ?_) (bkN (bBy bl (upE en x (0)))) 0 _ rfl (by omega) (hfr.upA (o := 50) rfl (by decide)) ⟨ch, hz_mne hch (by omega), hchX⟩ ⟨g2, va_up_self _ _ _, hg2⟩ (hc.fr ((mfr.rf (ks := []) (os := [50]) hfr.2.1).upA (o := 50) rfl (by decide)) rfl rfl)
    refine hz_iinc (pc := 173) (i := 4) (w := (-1)) (lo2 := [(4, .int (-1)), (0, .ref B), (1, .int (nI v)), (2, .int (nI x))]) 0 (hz_dec kX12_unspentBehind 94 rfl) rfl rfl (by decide) rfl ?_
    refine hz_goto (pc := 176) (tgt := 64) (hz_dec kX12_unspentBehind 95 rfl) (by decide) ?_
    refine hz_pick (pc := 64) [0, 1, 2, 3] rfl ?_
    exact c_un_e hO_ hE h8 hz hv hnb hlen hR hN hwf hbx h24 hx hcb hfr2 h492 h502 hc2
  | succ q ih =>
    intro M hq hfr h49 h50 hc
    obtain ⟨fs, hO, hF⟩ := id hfr.2.1
    have hup := hwf.up (k := x) (by omega) (q + 1) hq
    have hxe := hwf.ht (k := x) (by omega)
    obtain ⟨ch, hch, hchX⟩ := id h49
    obtain ⟨g50, hg50⟩ := id h50
    obtain ⟨-, -, -, cf1, cf2, cf3, cf4, cf5, cf6, cg1, cg2, cg3, cg4, cg5, cg6, -⟩ := id hc
    have hEM : mdE M B := hE.fr hfr (sp_8 cg2 cg5 cg6 hch hg50) (sp_8L cg1 cg3 cg4)
    have eA : ∀ o, [43, 44, 45, 46, 47, 48, 49, 50].elem o = false → ¬ o = 0 → fA M B o = fA M0 B o := fun o ho h0 => fA_c (hfr.at o h0 ho)
    have eL : ∀ o, [43, 44, 45, 46, 47, 48, 49, 50].elem o = false → ¬ o = 0 → fL M B o = fL M0 B o := fun o ho h0 => fL_c (hfr.at o h0 ho)
    have hNM : nbX (fA M B) (fL M B) v bl tip := by unfold nbX; rw [eA 20 rfl (by decide), eA 21 rfl (by decide), eA 25 rfl (by decide), eA 30 rfl (by decide), eA 31 rfl (by decide), eA 32 rfl (by decide), eA 24 rfl (by decide), eA 34 rfl (by decide), eA 51 rfl (by decide), eL 33 rfl (by decide)]; exact hN
    have hszM : (bBy bl (upE en x (q + 1))).length ≤ 200 ∨ fA M B 24 (128 * v + upE en x (q + 1)) ≠ -1 := by rw [eA 24 rfl (by decide)]; exact h24 _ (by omega)
    have hlen9 := (hbx (upE en x (q + 1)) (by omega)).len
    refine hz_iload (pc := 64) 0 (hz_dec kX12_unspentBehind 36 rfl) rfl ?_
    refine hz_z_lt (pc := 66) (tgt := 179) (hz_dec kX12_unspentBehind 37 rfl) (by decide) (by omega) ?_
    refine hz_iloadn (pc := 69) 2 (hz_dec kX12_unspentBehind 38 rfl) rfl ?_
    refine hz_aloadn (pc := 70) 1 (hz_dec kX12_unspentBehind 39 rfl) rfl ?_
    refine hz_get (pc := 71) (v := .ref (B + 49)) (hz_dec kX12_unspentBehind 40 rfl) fo_X12_165 hO h8 (by omega) (hF.2 56 (by decide) (by decide)) ?_
    refine hz_iload (pc := 74) 0 (hz_dec kX12_unspentBehind 41 rfl) rfl ?_
    refine hz_iald (pc := 76) (j := q + 1) (hz_dec kX12_unspentBehind 42 rfl) hch (by omega) (by omega) rfl (by omega) (by decide) ?_
    refine hz_eqi (pc := 77) (hchX (q + 1) (by omega)) ?_
    refine hz_xS (pc := 77) (As := [.int (nI v), .int (nI (upE en x (q + 1)))]) (st := []) (hz_dec kX12_unspentBehind 43 rfl) co_X12_419 sc_X12_at0 (c_at0) rfl (by decide) ⟨Nat.le_refl _, Nat.le_refl _⟩ (Nat.le_of_ble_eq_true rfl) rfl ?_
    refine hz_istore (pc := 80) (i := 5) (lo2 := [(5, .int (nI (128 * v + upE en x (q + 1)))), (4, .int (nI (q + 1))), (0, .ref B), (1, .int (nI v)), (2, .int (nI x))]) (hz_dec kX12_unspentBehind 44 rfl) (by decide) rfl ?_
    refine hz_aloadn (pc := 82) 2 (hz_dec kX12_unspentBehind 45 rfl) rfl ?_
    refine hz_iloadn (pc := 83) 3 (hz_dec kX12_unspentBehind 46 rfl) rfl ?_
    refine hz_aloadn (pc := 84) 2 (hz_dec kX12_unspentBehind 47 rfl) rfl ?_
    refine hz_get (pc := 85) (v := .ref (B + 49)) (hz_dec kX12_unspentBehind 48 rfl) fo_X12_165 hO h8 (by omega) (hF.2 56 (by decide) (by decide)) ?_
    refine hz_iload (pc := 88) 1 (hz_dec kX12_unspentBehind 49 rfl) rfl ?_
    refine hz_iald (pc := 90) (j := q + 1) (hz_dec kX12_unspentBehind 50 rfl) hch (by omega) (by omega) rfl (by omega) (by decide) ?_
    refine hz_eqi (pc := 91) (hchX (q + 1) (by omega)) ?_
    refine hz_callV (pc := 91) (a := B) (As := [.int (nI v), .int (nI (upE en x (q + 1)))]) (st := []) (hz_dec kX12_unspentBehind 51 rfl) co_X12_501 im_X12_bring2 se_X12_bring2 rfl hO h8 (by omega) (c_br2 (M := M) hfr.2.1 hEM h8 hz hv hnb hNM (x := upE en x (q + 1)) (by omega) hszM (by omega)) rfl (by decide) ⟨Nat.le_refl _, Nat.le_refl _⟩ (Nat.le_of_ble_eq_true rfl) rfl (fun r9 z9 M9 hp9 => ?_)
    obtain ⟨rfl, rfl, g2, hg2, rfl⟩ := hp9
    refine hz_bipush (pc := 94) (v := nI 81) (hz_dec kX12_unspentBehind 52 rfl) (by decide) ?_
    refine hz_istore (pc := 96) (i := 6) (lo2 := [(6, .int (nI 81)), (5, .int (nI (128 * v + upE en x (q + 1)))), (4, .int (nI (q + 1))), (0, .ref B), (1, .int (nI v)), (2, .int (nI x))]) (hz_dec kX12_unspentBehind 53 rfl) (by decide) rfl ?_
    refine hz_iconst (pc := 98) (v := nI 0) (hz_dec kX12_unspentBehind 54 rfl) (by decide) ?_
    refine hz_istore (pc := 99) (i := 7) (lo2 := [(7, .int (nI 0)), (6, .int (nI 81)), (5, .int (nI (128 * v + upE en x (q + 1)))), (4, .int (nI (q + 1))), (0, .ref B), (1, .int (nI v)), (2, .int (nI x))]) (hz_dec kX12_unspentBehind 55 rfl) (by decide) rfl ?_
    refine hz_pick (pc := 101) [0, 1, 2, 3, 4, 5, 6] rfl ?_
    refine c_un_i hO_ hE h8 hz hv hnb hlen hR hN hwf hbx h24 hx hcb (q := q + 1) hq (fun M2 hfr2 h492 h502 hc2 => ?_) (bkN (bBy bl (upE en x (q + 1)))) 0 _ rfl (by omega) (hfr.upA (o := 50) rfl (by decide)) ⟨ch, hz_mne hch (by omega), hchX⟩ ⟨g2, va_up_self _ _ _, hg2⟩ (hc.fr ((mfr.rf (ks := []) (os := [50]) hfr.2.1).upA (o := 50) rfl (by decide)) rfl rfl)
    refine hz_decN (pc := 173) (i := 4) (lo2 := [(4, .int (nI q)), (0, .ref B), (1, .int (nI v)), (2, .int (nI x))]) 0 (hz_dec kX12_unspentBehind 94 rfl) rfl (by decide) rfl ?_
    refine hz_goto (pc := 176) (tgt := 64) (hz_dec kX12_unspentBehind 95 rfl) (by decide) ?_
    refine hz_pick (pc := 64) [0, 1, 2, 3] rfl ?_
    refine ih M2 (by omega) hfr2 h492 h502 ?_
    rw [show eH en x - (q + 1) + 1 = eH en x - q by omega] at hc2
    exact hc2
set_option maxHeartbeats 4000000 in
set_option maxRecDepth 100000 in
theorem c_un_c {κ : hz_C} {z : Nat} {M0 : hz_M} {B : Nat} (hO_ : md_O M0 B) (hE : mdE M0 B) (h8 : 8 ≤ B) (hz : B + 88 ≤ z) {v tip : Nat} {bl : List bk_B} {en : List en_E} (hv : v < 6) (hnb : bl.length ≤ 128) (hlen : bl.length ≤ en.length) (hR : rvX (fA M0 B) v bl.length en) (hN : nbX (fA M0 B) (fL M0 B) v bl tip) (hwf : wfE en) (hbx : blX bl) (h24 : ∀ k, k < bl.length → (bBy bl k).length ≤ 200 ∨ fA M0 B 24 (128 * v + k) ≠ -1) {x : Nat} (hx : x < bl.length) (hcb : cbX bl en x) {P : hz_P} (K9 : ∀ M, mfr B [53, 54] [43, 44, 45, 46, 47, 48, 49, 50] M0 M → (∃ ch : Nat → Int32, M (B + 49) = .inl (0, 128, .inl ch) ∧ ∀ i, i ≤ eH en x → ch i = nI (upE en x i)) → (∃ g : Nat → Int32, M (B + 50) = .inl (1, 4000, .inl g)) → mcR M B [] → hz_W κ xX12_unspentBehind 3 0 0 P 0 0 59 [(3, .int (nI (eH en x + 1))), (0, .ref B), (1, .int (nI v)), (2, .int (nI x))] [] z M) : ∀ k i M, k = eH en x - i → i ≤ eH en x → mfr B [53, 54] [43, 44, 45, 46, 47, 48, 49, 50] M0 M → (∃ ch : Nat → Int32, M (B + 49) = .inl (0, 128, .inl ch) ∧ ∀ j, j < i → ch j = nI (upE en x j)) → (∃ g : Nat → Int32, M (B + 50) = .inl (1, 4000, .inl g)) → mcR M B [] → hz_W κ xX12_unspentBehind 3 0 0 P 0 0 27 [(3, .int (nI i)), (4, .int (nI (upE en x i))), (0, .ref B), (1, .int (nI v)), (2, .int (nI x))] [] z M := by
  intro k
  induction k using Nat.strongRecOn with
  | ind k ih =>
  intro i M hk hi hfr h49 h50 hc
  obtain ⟨fs, hO, hF⟩ := id hfr.2.1
  obtain ⟨ch, hch, hchX⟩ := id h49
  obtain ⟨g50, hg50⟩ := id h50
  have hup := hwf.up (k := x) (by omega) i hi
  have hxe := hwf.ht (k := x) (by omega)
  have hRx := (hR (upE en x i) (by omega)).1 (by omega)
  refine hz_iload (pc := 27) 1 (hz_dec kX12_unspentBehind 16 rfl) rfl ?_
  refine hz_z_lt (pc := 29) (tgt := 59) (hz_dec kX12_unspentBehind 17 rfl) (by decide) (by omega) ?_
  refine hz_aloadn (pc := 32) 2 (hz_dec kX12_unspentBehind 18 rfl) rfl ?_
  refine hz_get (pc := 33) (v := .ref (B + 49)) (hz_dec kX12_unspentBehind 19 rfl) fo_X12_165 hO h8 (by omega) (hF.2 56 (by decide) (by decide)) ?_
  refine hz_iloadn (pc := 36) 0 (hz_dec kX12_unspentBehind 20 rfl) rfl ?_
  refine hz_iload (pc := 37) 1 (hz_dec kX12_unspentBehind 21 rfl) rfl ?_
  refine hz_iast (pc := 39) (j := i) (hz_dec kX12_unspentBehind 22 rfl) hch (by omega) (by omega) rfl (by omega) (by decide) ?_
  refine hz_incN (pc := 40) (i := 3) (lo2 := [(3, .int (nI (i + 1))), (4, .int (nI (upE en x i))), (0, .ref B), (1, .int (nI v)), (2, .int (nI x))]) 0 (hz_dec kX12_unspentBehind 23 rfl) rfl (by decide) rfl ?_
  refine hz_aloadn (pc := 43) 2 (hz_dec kX12_unspentBehind 24 rfl) rfl ?_
  refine hz_get (pc := 44) (v := .ref (B + 26)) (hz_dec kX12_unspentBehind 25 rfl) fo_X12_89 (hz_mne hO (by omega)) h8 (by omega) (hF.2 28 (by decide) (by decide)) ?_
  refine hz_iloadn (pc := 47) 3 (hz_dec kX12_unspentBehind 26 rfl) rfl ?_
  refine hz_iload (pc := 48) 1 (hz_dec kX12_unspentBehind 27 rfl) rfl ?_
  refine hz_xS (pc := 50) (As := [.int (nI v), .int (nI (upE en x i))]) (st := [.ref (B + 26)]) (hz_dec kX12_unspentBehind 28 rfl) co_X12_419 sc_X12_at0 (c_at0) rfl (by decide) ⟨Nat.le_refl _, Nat.le_refl _⟩ (Nat.le_of_ble_eq_true rfl) rfl ?_
  refine hz_iald (pc := 53) (j := 128 * v + upE en x i) (hz_dec kX12_unspentBehind 29 rfl) (hz_mne ((hfr.at 26 (by decide) rfl).trans hE.a26) (by omega)) (by omega) (by omega) rfl (by omega) (by decide) ?_
  have hfr2 := hfr.upA (o := 49) (e := .inl (0, 128, .inl (upd ch i (nI (upE en x i))))) rfl (by decide)
  have hc2 := hc.fr ((mfr.rf (ks := []) (os := [49]) hfr.2.1).upA (o := 49) (e := .inl (0, 128, .inl (upd ch i (nI (upE en x i))))) rfl (by decide)) rfl rfl
  have hX2 : ∀ j, j < i + 1 → upd ch i (nI (upE en x i)) j = nI (upE en x j) := by
    intro j hj
    simp only [upd]
    split
    · next e => rw [e]
    · exact hchX j (by omega)
  rcases (show i < eH en x ∨ i = eH en x by omega) with c | c
  · skip
    refine hz_eqi (pc := 54) (show _ = nI (upE en x (i + 1)) by rw [hRx.1, hwf.pv (k := x) (by omega) c]; show nI (rx _ _) = _; rw [rx_lt (by have q9 := hwf.up (k := x) (by omega) (i + 1) (by omega); omega)]) ?_
    refine hz_istore (pc := 54) (i := 4) (lo2 := [(4, .int (nI (upE en x (i + 1)))), (3, .int (nI (i + 1))), (0, .ref B), (1, .int (nI v)), (2, .int (nI x))]) (hz_dec kX12_unspentBehind 30 rfl) (by decide) rfl ?_
    refine hz_goto (pc := 56) (tgt := 27) (hz_dec kX12_unspentBehind 31 rfl) (by decide) ?_
    refine hz_pick (pc := 27) [1, 0, 2, 3, 4] rfl ?_
    exact ih (eH en x - (i + 1)) (by omega) (i + 1) _ rfl (by omega) hfr2 ⟨_, va_up_self _ _ _, hX2⟩ ⟨g50, hz_mne hg50 (by omega)⟩ hc2
  · skip
    refine hz_eqi (pc := 54) (show _ = (-1 : Int32) by rw [hRx.1, c, (hwf.top (k := x) (by omega)).2]; rfl) ?_
    refine hz_istore (pc := 54) (i := 4) (lo2 := [(4, .int (-1)), (3, .int (nI (i + 1))), (0, .ref B), (1, .int (nI v)), (2, .int (nI x))]) (hz_dec kX12_unspentBehind 30 rfl) (by decide) rfl ?_
    refine hz_goto (pc := 56) (tgt := 27) (hz_dec kX12_unspentBehind 31 rfl) (by decide) ?_
    refine hz_iload (pc := 27) 0 (hz_dec kX12_unspentBehind 16 rfl) rfl ?_
    refine hz_if_lt (pc := 29) (tgt := 59) (hz_dec kX12_unspentBehind 17 rfl) (by decide) (fun h5 => ?_) (fun h5 => ?_)
    · skip
      refine hz_pick (pc := 59) [1, 2, 3, 4] rfl ?_
      have K8 := K9 _ hfr2 ⟨_, va_up_self _ _ _, fun j hj => hX2 j (by omega)⟩ ⟨g50, hz_mne hg50 (by omega)⟩ hc2
      rw [← c] at K8
      exact K8
    · skip
      exact absurd (by decide) h5
set_option maxHeartbeats 4000000 in
set_option maxRecDepth 100000 in
theorem c_unsp {κ : hz_C} {z : Nat} {M : hz_M} {B : Nat} (hO_ : md_O M B) (hE : mdE M B) (h8 : 8 ≤ B) (hz : B + 88 ≤ z) {v tip : Nat} {bl : List bk_B} {en : List en_E} (hv : v < 6) (hnb : bl.length ≤ 128) (hlen : bl.length ≤ en.length) (hR : rvX (fA M B) v bl.length en) (hN : nbX (fA M B) (fL M B) v bl tip) (hwf : wfE en) (hbx : blX bl) (h24 : ∀ k, k < bl.length → (bBy bl k).length ≤ 200 ∨ fA M B 24 (128 * v + k) ≠ -1) {x : Nat} (hx : x < bl.length) (hcb : cbX bl en x) {cn cb : Int32} (h54 : fdB M B 54 = some (.int cn)) (h55 : fdB M B 55 = some (.int cb)) (hcc : cn = nI v → cb = nI x → mcR M B (coAt bl en x)) : hz_Mt κ xX12_unspentBehind 3 0 0 [.ref B, .int (nI v), .int (nI x)] z M (fun r z2 M2 => none = r ∧ z = z2 ∧ mfr B [53, 54, 55] [43, 44, 45, 46, 47, 48, 49, 50] M M2 ∧ (∃ g : Nat → Int32, M2 (B + 50) = .inl (1, 4000, .inl g)) ∧ (∃ g : Nat → Int32, M2 (B + 49) = .inl (0, 128, .inl g)) ∧ mcR M2 B (coAt bl en x) ∧ fdB M2 B 54 = some (.int (nI v)) ∧ fdB M2 B 55 = some (.int (nI x))) := by
  refine hz_ent (lo := [(0, .ref B), (1, .int (nI v)), (2, .int (nI x))]) (by decide) (Nat.le_of_ble_eq_true rfl) rfl ?_
  obtain ⟨fs, hO, hF⟩ := id hO_
  have hxe := hwf.ht (k := x) (by omega)
  have g54 : fs[54]? = some (.int cn) := (fdB_of hO 54).symm.trans h54
  have g55 : fs[55]? = some (.int cb) := (fdB_of hO 55).symm.trans h55
  refine hz_aloadn (pc := 0) 0 (hz_dec kX12_unspentBehind 0 rfl) rfl ?_
  refine hz_get (pc := 1) (v := .int cn) (hz_dec kX12_unspentBehind 1 rfl) fo_X12_158 hO h8 (by omega) g54 ?_
  refine hz_iloadn (pc := 4) 1 (hz_dec kX12_unspentBehind 2 rfl) rfl ?_
  refine hz_icmp_ne (pc := 5) (tgt := 17) (hz_dec kX12_unspentBehind 3 rfl) (by decide) (fun h1 => ?_) (fun h1 => ?_)
  · skip
    refine hz_aloadn (pc := 17) 0 (hz_dec kX12_unspentBehind 9 rfl) rfl ?_
    refine hz_iconst (pc := 18) (v := nI 0) (hz_dec kX12_unspentBehind 10 rfl) (by decide) ?_
    refine hz_puti (pc := 19) (hz_dec kX12_unspentBehind 11 rfl) fo_X12_479 ft_X12_53 hO h8 (by omega) (by rw [hF.1]; decide) ?_
    refine hz_iconst (pc := 22) (v := nI 0) (hz_dec kX12_unspentBehind 12 rfl) (by decide) ?_
    refine hz_istoren (pc := 23) (i := 3) (lo2 := [(3, .int (nI 0)), (0, .ref B), (1, .int (nI v)), (2, .int (nI x))]) (hz_dec kX12_unspentBehind 13 rfl) rfl (by decide) rfl ?_
    refine hz_iloadn (pc := 24) 3 (hz_dec kX12_unspentBehind 14 rfl) rfl ?_
    refine hz_istore (pc := 25) (i := 4) (lo2 := [(4, .int (nI x)), (3, .int (nI 0)), (0, .ref B), (1, .int (nI v)), (2, .int (nI x))]) (hz_dec kX12_unspentBehind 15 rfl) (by decide) rfl ?_
    refine hz_pick (pc := 27) [1, 0, 2, 3, 4] rfl ?_
    have hf0 : mfr B [53, 54] [43, 44, 45, 46, 47, 48, 49, 50] M (va_up M B (.inr (12, (List.set fs 53 (.int (nI 0)))))) := (mfr.rf ⟨fs, hO, hF⟩).upO (k := 53) hO hF rfl rfl
    have hc0 : mcR (va_up M B (.inr (12, (List.set fs 53 (.int (nI 0)))))) B [] := ⟨hf0.2.1, by rw [fdB_of (va_up_self _ _ _), List.getElem?_set_self (by rw [hF.1]; decide)]; rfl, Nat.zero_le _, _, _, _, _, _, _, hz_mne hE.a43 (by omega), hz_mne hE.a44 (by omega), hz_mne hE.a45 (by omega), hz_mne hE.a46 (by omega), hz_mne hE.a47 (by omega), hz_mne hE.a48 (by omega), fun j hj => absurd hj (Nat.not_lt_zero j)⟩
    refine c_un_c hO_ hE h8 hz hv hnb hlen hR hN hwf hbx h24 hx hcb (fun M1 hf1 h491 h501 hc1 => ?_) (eH en x) 0 _ rfl (by omega) hf0 ⟨_, hz_mne hE.a49 (by omega), fun j hj => absurd hj (by omega)⟩ ⟨_, hz_mne hE.a50 (by omega)⟩ hc0
    refine hz_iloadn (pc := 59) 0 (hz_dec kX12_unspentBehind 32 rfl) rfl ?_
    refine hz_iconst (pc := 60) (v := nI 1) (hz_dec kX12_unspentBehind 33 rfl) (by decide) ?_
    refine hz_subN (pc := 61) (hz_dec kX12_unspentBehind 34 rfl) (by omega) ?_
    refine hz_eqi (pc := 62) (show _ = nI (eH en x) by rw [Nat.add_sub_cancel]) ?_
    refine hz_istore (pc := 62) (i := 4) (lo2 := [(4, .int (nI (eH en x))), (3, .int (nI (eH en x + 1))), (0, .ref B), (1, .int (nI v)), (2, .int (nI x))]) (hz_dec kX12_unspentBehind 35 rfl) (by decide) rfl ?_
    refine hz_pick (pc := 64) [0, 2, 3, 4] rfl ?_
    exact c_un_o hO_ hE h8 hz hv hnb hlen hR hN hwf hbx h24 hx hcb (eH en x) M1 (Nat.le_refl _) hf1 h491 h501 (by rw [Nat.sub_self]; exact hc1)
  · skip
    refine hz_aloadn (pc := 8) 0 (hz_dec kX12_unspentBehind 4 rfl) rfl ?_
    refine hz_get (pc := 9) (v := .int cb) (hz_dec kX12_unspentBehind 5 rfl) fo_X12_162 hO h8 (by omega) g55 ?_
    refine hz_iloadn (pc := 12) 2 (hz_dec kX12_unspentBehind 6 rfl) rfl ?_
    refine hz_icmp_ne (pc := 13) (tgt := 17) (hz_dec kX12_unspentBehind 7 rfl) (by decide) (fun h2 => ?_) (fun h2 => ?_)
    · skip
      refine hz_aloadn (pc := 17) 0 (hz_dec kX12_unspentBehind 9 rfl) rfl ?_
      refine hz_iconst (pc := 18) (v := nI 0) (hz_dec kX12_unspentBehind 10 rfl) (by decide) ?_
      refine hz_puti (pc := 19) (hz_dec kX12_unspentBehind 11 rfl) fo_X12_479 ft_X12_53 hO h8 (by omega) (by rw [hF.1]; decide) ?_
      refine hz_iconst (pc := 22) (v := nI 0) (hz_dec kX12_unspentBehind 12 rfl) (by decide) ?_
      refine hz_istoren (pc := 23) (i := 3) (lo2 := [(3, .int (nI 0)), (0, .ref B), (1, .int (nI v)), (2, .int (nI x))]) (hz_dec kX12_unspentBehind 13 rfl) rfl (by decide) rfl ?_
      refine hz_iloadn (pc := 24) 3 (hz_dec kX12_unspentBehind 14 rfl) rfl ?_
      refine hz_istore (pc := 25) (i := 4) (lo2 := [(4, .int (nI x)), (3, .int (nI 0)), (0, .ref B), (1, .int (nI v)), (2, .int (nI x))]) (hz_dec kX12_unspentBehind 15 rfl) (by decide) rfl ?_
      refine hz_pick (pc := 27) [1, 0, 2, 3, 4] rfl ?_
      have hf0 : mfr B [53, 54] [43, 44, 45, 46, 47, 48, 49, 50] M (va_up M B (.inr (12, (List.set fs 53 (.int (nI 0)))))) := (mfr.rf ⟨fs, hO, hF⟩).upO (k := 53) hO hF rfl rfl
      have hc0 : mcR (va_up M B (.inr (12, (List.set fs 53 (.int (nI 0)))))) B [] := ⟨hf0.2.1, by rw [fdB_of (va_up_self _ _ _), List.getElem?_set_self (by rw [hF.1]; decide)]; rfl, Nat.zero_le _, _, _, _, _, _, _, hz_mne hE.a43 (by omega), hz_mne hE.a44 (by omega), hz_mne hE.a45 (by omega), hz_mne hE.a46 (by omega), hz_mne hE.a47 (by omega), hz_mne hE.a48 (by omega), fun j hj => absurd hj (Nat.not_lt_zero j)⟩
      refine c_un_c hO_ hE h8 hz hv hnb hlen hR hN hwf hbx h24 hx hcb (fun M1 hf1 h491 h501 hc1 => ?_) (eH en x) 0 _ rfl (by omega) hf0 ⟨_, hz_mne hE.a49 (by omega), fun j hj => absurd hj (by omega)⟩ ⟨_, hz_mne hE.a50 (by omega)⟩ hc0
      refine hz_iloadn (pc := 59) 0 (hz_dec kX12_unspentBehind 32 rfl) rfl ?_
      refine hz_iconst (pc := 60) (v := nI 1) (hz_dec kX12_unspentBehind 33 rfl) (by decide) ?_
      refine hz_subN (pc := 61) (hz_dec kX12_unspentBehind 34 rfl) (by omega) ?_
      refine hz_eqi (pc := 62) (show _ = nI (eH en x) by rw [Nat.add_sub_cancel]) ?_
      refine hz_istore (pc := 62) (i := 4) (lo2 := [(4, .int (nI (eH en x))), (3, .int (nI (eH en x + 1))), (0, .ref B), (1, .int (nI v)), (2, .int (nI x))]) (hz_dec kX12_unspentBehind 35 rfl) (by decide) rfl ?_
      refine hz_pick (pc := 64) [0, 2, 3, 4] rfl ?_
      exact c_un_o hO_ hE h8 hz hv hnb hlen hR hN hwf hbx h24 hx hcb (eH en x) M1 (Nat.le_refl _) hf1 h491 h501 (by rw [Nat.sub_self]; exact hc1)
    · skip
      exact hz_vret (pc := 16) (hz_dec kX12_unspentBehind 8 rfl) rfl ⟨rfl, rfl, mfr.rf ⟨fs, hO, hF⟩, ⟨_, hE.a50⟩, ⟨_, hE.a49⟩, hcc h1 h2, by rw [h54, h1], by rw [h55, h2]⟩
