/-! the pool anew: renewPool -/
/-- the old pool's transactions, tried again -/
def pnO (cs : List co_C) (h : Nat) (po : List po_P) : Nat → List po_P
  | 0 => []
  | k + 1 => poN (pnO cs h po k) cs (poL po k) h true
/-- the transactions of a block that left the chain -/
def pnT (cs : List co_C) (h : Nat) (l : by_L) : Nat → List po_P → List po_P
  | 0, po => po
  | j + 1, po => if j = 0 then po else poN (pnT cs h l j po) cs (bkT l j) h true
def pnB (bl : List bk_B) (en : List en_E) (tip old : Nat) (cs : List co_C) (h : Nat) : Nat → List po_P → List po_P
  | 0, po => po
  | n + 1, po => if onC en tip (chE en old n) = true then pnB bl en tip old cs h n po else pnT cs h (bBy bl (chE en old n)) (bkN (bBy bl (chE en old n))) (pnB bl en tip old cs h n po)
/-- the pool anew -/
def pnS (bl : List bk_B) (en : List en_E) (tip old : Nat) (po : List po_P) : List po_P := pnB bl en tip old (coAt bl en tip) (eH en tip + 1) (eH en old + 1) (pnO (coAt bl en tip) (eH en tip + 1) po po.length)
theorem jPo_0 {po : List po_P} {cs : List co_C} {t : by_L} {h : Nat} (e : jPo po cs t h = 0) : txW t ∧ 0 < txI t ∧ po.length < 16 := by
  unfold jPo at e
  split at e
  · cases e
  · rename_i c1
    split at e
    · cases e
    · split at e
      · cases e
      · rename_i c3
        split at e
        · rename_i c4; exact absurd e c4
        · split at e
          · cases e
          · split at e
            · cases e
            · rename_i c6
              refine ⟨⟨Decidable.not_not.mp (fun q => c1 (Or.inl q)), fun q => c1 (Or.inr q)⟩, by omega, by omega⟩
theorem poW_N {po : List po_P} {cs : List co_C} {t : by_L} {h : Nat} {wi : Bool} (hw : poW po) : poW (poN po cs t h wi) := by
  unfold poN
  split
  · rename_i c
    obtain ⟨a, b, d⟩ := jPo_0 c.1
    refine ⟨by rw [List.length_append]; exact d, fun k hk => ?_⟩
    rw [List.length_append] at hk
    have hk2 : k < po.length + 1 := hk
    rcases (show k = po.length ∨ k < po.length by omega) with e | e
    · rw [e, poL_last.1]; exact ⟨a, b⟩
    · rw [(poL_app e).1]; exact hw.2 k e
  · exact hw
theorem poW_nil : poW [] := ⟨Nat.zero_le _, fun k hk => absurd hk (Nat.not_lt_zero k)⟩
theorem poW_O {cs : List co_C} {h : Nat} {po : List po_P} : ∀ k, poW (pnO cs h po k) := by
  intro k
  induction k with
  | zero => exact poW_nil
  | succ k ih => exact poW_N ih
theorem poW_T {cs : List co_C} {h : Nat} {l : by_L} {po : List po_P} (hw : poW po) : ∀ j, poW (pnT cs h l j po) := by
  intro j
  induction j with
  | zero => exact hw
  | succ j ih =>
    unfold pnT
    split
    · exact hw
    · exact poW_N ih
theorem poW_B {bl : List bk_B} {en : List en_E} {tip old : Nat} {cs : List co_C} {h : Nat} {po : List po_P} (hw : poW po) : ∀ n, poW (pnB bl en tip old cs h n po) := by
  intro n
  induction n with
  | zero => exact hw
  | succ n ih =>
    unfold pnB
    split
    · exact ih
    · exact poW_T ih _
theorem poW_S {bl : List bk_B} {en : List en_E} {tip old : Nat} {po : List po_P} : poW (pnS bl en tip old po) := poW_B (poW_O _) _
theorem take_st {α : Type} (l : List α) {i : Nat} (h : i < l.length) : l.take (i + 1) = l.take i ++ [l[i]] := by
  rw [List.take_succ, List.getElem?_eq_getElem h]
  rfl
theorem offL_take {L : List by_L} {i j : Nat} (h : j ≤ i) : offL (L.take i) j = offL L j := offL_c j (fun q hq => by unfold rowL; rw [List.getD_eq_getElem?_getD, List.getD_eq_getElem?_getD, List.getElem?_take_of_lt (by omega)])
theorem frS.at4 {a b c d e f g h q : Nat} {M M2 : hz_M} (h0 : frS [(a, b), (c, d), (e, f), (g, h)] M M2) (h9 : (q < a ∨ b ≤ q) ∧ (q < c ∨ d ≤ q) ∧ (q < e ∨ f ≤ q) ∧ (q < g ∨ h ≤ q)) : M2 q = M q := h0 q (show (q < a ∨ b ≤ q) ∧ (q < c ∨ d ≤ q) ∧ (q < e ∨ f ≤ q) ∧ (q < g ∨ h ≤ q) ∧ True from ⟨h9.1, h9.2.1, h9.2.2.1, h9.2.2.2, trivial⟩)
set_option maxHeartbeats 4000000 in
set_option maxRecDepth 100000 in
theorem c_rn4 {κ : hz_C} {z : Nat} {M0 : hz_M} (hz : 63 ≤ z) {tl : Nat} {tr : Int32} (hH0 : M0 8 = hoO tl tr) {nb : Nat} {nu up nx fu rc rf : Int32} (hN0 : M0 nb = ndO nb nu up nx fu rc rf) (hnb : 63 ≤ nb) (hnbz : nb + 34 ≤ z) {bl : List bk_B} {tip : Nat} {en : List en_E} (hT0 : trR M0 (nb + 21) bl tip en) (hbx : blX bl) (hht : coHt (coAt bl en tip)) {old : Nat} (hold : old < bl.length) {po0 : List po_P} (hpw0 : poW po0) {h : Nat} (hh : h ≤ eH en old) {g61 : Nat → Int32} {pB : List po_P} (hpB : poW pB) {P : hz_P} (K : ∀ M, frS [(9, 20), (25, 26), (58, 62), (nb + 2, nb + 14)] M0 M → coR M (nb + 2) (coAt bl en tip) → juS M z → plR M nb (pnT (coAt bl en tip) (eH en tip + 1) (bBy bl (chE en old h)) (bkN (bBy bl (chE en old h))) pB) → (∃ L, rwR M 58 5728 16 L) → M 61 = .inl (0, 113, .inl g61) → hz_W κ xX11_renewPool 5 0 0 P 0 0 302 [(5, .int (nI h)), (4, .int (nI (eH en old))), (0, .ref 8), (1, .ref nb), (2, .int (nI old)), (3, .ref (nb + 21))] [] z M) : ∀ k j M, k = bkN (bBy bl (chE en old h)) - j → j ≤ bkN (bBy bl (chE en old h)) → frS [(9, 20), (25, 26), (58, 62), (nb + 2, nb + 14)] M0 M → coR M (nb + 2) (coAt bl en tip) → juS M z → plR M nb (pnT (coAt bl en tip) (eH en tip + 1) (bBy bl (chE en old h)) j pB) → (∃ L, rwR M 58 5728 16 L) → M 61 = .inl (0, 113, .inl g61) → hz_W κ xX11_renewPool 5 0 0 P 0 0 240 [(9, .int (nI j)), (6, .int (nI (offL (bl.map Prod.fst) (chE en old h) + bkS (bBy bl (chE en old h)) j))), (7, .int (nI (offL (bl.map Prod.fst) (chE en old h) + (bBy bl (chE en old h)).length))), (8, .int (nI (bkN (bBy bl (chE en old h))))), (5, .int (nI h)), (4, .int (nI (eH en old))), (0, .ref 8), (1, .ref nb), (2, .int (nI old)), (3, .ref (nb + 21))] [] z M := by
  intro k
  induction k using Nat.strongRecOn with
  | ind k ih =>
  intro j M hk hj hfr hc hJ hp h58 h61
  have hH := (hfr.at4 (q := 8) (by omega)).trans hH0
  have hN := (hfr.at4 (q := nb) (by omega)).trans hN0
  have hT : trR M (nb + 21) bl tip en := hT0.fr (fun q q1 q2 => hfr.at4 (by omega))
  have hTL : bl.length ≤ en.length ∧ wfE en ∧ bl.length ≤ 113 ∧ tip < bl.length := by obtain ⟨-, -, -, -, -, -, -, -, q1, q2, q3, q4, q5, q6⟩ := id hT; exact ⟨q2, q5, q1, q6⟩
  obtain ⟨hlen, hwf, hl113, htip⟩ := hTL
  have hoe := hwf.ht (k := old) (by omega)
  have hch := chE_h hwf (tip := old) (x := h) (by omega) hh
  have hW : blW (bBy bl (chE en old h)) := hbx _ (by omega)
  obtain ⟨hbf1, hbf2, hbf3, hbf4, hbf5, hbf6, hbf7⟩ := hW.f
  obtain ⟨hTq, ⟨hrO, hrle, hroff, f1, g1, hf1, hg1, hrX⟩, -⟩ := id hT
  rw [List.length_map] at hrO hrle hroff
  have hA : isA f1 (offL (bl.map Prod.fst) (chE en old h)) (bBy bl (chE en old h)) := by have q := hrX.2 (chE en old h) (by rw [List.length_map]; omega); rw [rowL_bl] at q; exact q
  have hom := offL_mono (bl.map Prod.fst) bl.length (chE en old h + 1) (by omega)
  have hos : offL (bl.map Prod.fst) (chE en old h + 1) = offL (bl.map Prod.fst) (chE en old h) + (bBy bl (chE en old h)).length := by simp only [offL]; rw [rowL_bl]
  obtain ⟨bf, fe, hj0⟩ := id hJ.1
  refine hz_iload (pc := 240) 0 (hz_dec kX11_renewPool 116 rfl) rfl ?_
  refine hz_iload (pc := 242) 3 (hz_dec kX11_renewPool 117 rfl) rfl ?_
  refine hz_n_ge (pc := 244) (tgt := 302) (hz_dec kX11_renewPool 118 rfl) (by decide) (by omega) (by omega) (fun h1 => ?_) (fun h1 => ?_)
  · skip
    have e : j = bkN (bBy bl (chE en old h)) := by omega
    refine hz_pick (pc := 302) [4, 5, 6, 7, 8, 9] rfl ?_
    exact K M hfr hc hJ (by rw [← e]; exact hp) h58 h61
  · skip
    obtain ⟨t1, t2, t3, t4, t5⟩ := hW.t h1
    have tA := hW.A hA h1
    have tl := txW_len t2
    refine hz_aloadn (pc := 247) 9 (hz_dec kX11_renewPool 119 rfl) rfl ?_
    refine hz_get (pc := 248) (hz_dec kX11_renewPool 120 rfl) fo_X11_217 hTq (by omega) (by omega) rfl ?_
    refine hz_get (pc := 251) (hz_dec kX11_renewPool 121 rfl) fo_X11_225 hrO (by omega) (by omega) rfl ?_
    refine hz_iload (pc := 254) 1 (hz_dec kX11_renewPool 122 rfl) rfl ?_
    refine hz_iload (pc := 256) 2 (hz_dec kX11_renewPool 123 rfl) rfl ?_
    refine hz_xS (pc := 258) (As := [.ref (nb + 21 + 1 + 1), .int (nI (offL (bl.map Prod.fst) (chE en old h) + bkS (bBy bl (chE en old h)) j)), .int (nI (offL (bl.map Prod.fst) (chE en old h) + (bBy bl (chE en old h)).length))]) (st := []) (hz_dec kX11_renewPool 124 rfl) co_X11_511 sc_X0_transactionLength (c_txl hf1 (by omega) (by omega) (by decide) (by omega) (by omega)) rfl (by decide) ⟨Nat.le_refl _, Nat.le_refl _⟩ (Nat.le_of_ble_eq_true rfl) rfl ?_
    refine hz_eqi (pc := 261) (show _ = nI (bkT (bBy bl (chE en old h)) j).length by rw [tx_len_sh hA (by omega), t5]) ?_
    refine hz_istore (pc := 261) (i := 10) (lo2 := [(10, .int (nI ((bkT (bBy bl (chE en old h)) j).length))), (9, .int (nI j)), (6, .int (nI (offL (bl.map Prod.fst) (chE en old h) + bkS (bBy bl (chE en old h)) j))), (7, .int (nI (offL (bl.map Prod.fst) (chE en old h) + (bBy bl (chE en old h)).length))), (8, .int (nI (bkN (bBy bl (chE en old h))))), (5, .int (nI h)), (4, .int (nI (eH en old))), (0, .ref 8), (1, .ref nb), (2, .int (nI old)), (3, .ref (nb + 21))]) (hz_dec kX11_renewPool 125 rfl) (by decide) rfl ?_
    refine hz_iload (pc := 263) 1 (hz_dec kX11_renewPool 126 rfl) rfl ?_
    refine hz_z_le (pc := 265) (tgt := 289) (hz_dec kX11_renewPool 127 rfl) (by decide) (by omega) (fun h2 => ?_) (fun h2 => ?_)
    · skip
      refine hz_iload (pc := 289) 2 (hz_dec kX11_renewPool 139 rfl) rfl ?_
      refine hz_iload (pc := 291) 0 (hz_dec kX11_renewPool 140 rfl) rfl ?_
      refine hz_addN (pc := 293) (hz_dec kX11_renewPool 141 rfl) ?_
      refine hz_istore (pc := 294) (i := 6) (lo2 := [(6, .int (nI ((offL (bl.map Prod.fst) (chE en old h) + bkS (bBy bl (chE en old h)) j) + ((bkT (bBy bl (chE en old h)) j).length)))), (10, .int (nI ((bkT (bBy bl (chE en old h)) j).length))), (9, .int (nI j)), (7, .int (nI (offL (bl.map Prod.fst) (chE en old h) + (bBy bl (chE en old h)).length))), (8, .int (nI (bkN (bBy bl (chE en old h))))), (5, .int (nI h)), (4, .int (nI (eH en old))), (0, .ref 8), (1, .ref nb), (2, .int (nI old)), (3, .ref (nb + 21))]) (hz_dec kX11_renewPool 142 rfl) (by decide) rfl ?_
      refine hz_incN (pc := 296) (i := 9) (lo2 := [(9, .int (nI (j + 1))), (6, .int (nI ((offL (bl.map Prod.fst) (chE en old h) + bkS (bBy bl (chE en old h)) j) + ((bkT (bBy bl (chE en old h)) j).length)))), (10, .int (nI ((bkT (bBy bl (chE en old h)) j).length))), (7, .int (nI (offL (bl.map Prod.fst) (chE en old h) + (bBy bl (chE en old h)).length))), (8, .int (nI (bkN (bBy bl (chE en old h))))), (5, .int (nI h)), (4, .int (nI (eH en old))), (0, .ref 8), (1, .ref nb), (2, .int (nI old)), (3, .ref (nb + 21))]) 2 (hz_dec kX11_renewPool 143 rfl) rfl (by decide) rfl ?_
      refine hz_goto (pc := 299) (tgt := 240) (hz_dec kX11_renewPool 144 rfl) (by decide) ?_
      have e9 : nI (offL (bl.map Prod.fst) (chE en old h) + bkS (bBy bl (chE en old h)) j + (bkT (bBy bl (chE en old h)) j).length) = nI (offL (bl.map Prod.fst) (chE en old h) + bkS (bBy bl (chE en old h)) (j + 1)) := by rw [t1, Nat.add_assoc]
      refine hz_pick (pc := 240) [0, 1, 3, 4, 5, 6, 7, 8, 9, 10] rfl ?_
      rw [e9]
      refine ih (bkN (bBy bl (chE en old h)) - (j + 1)) (by omega) (j + 1) M rfl (by omega) hfr hc hJ ?_ h58 h61
      unfold pnT
      rw [if_pos (by omega)]
      have e0 : j = 0 := by omega
      subst e0
      exact hp
    · skip
      refine hz_aloadn (pc := 268) 7 (hz_dec kX11_renewPool 128 rfl) rfl ?_
      refine hz_get (pc := 269) (hz_dec kX11_renewPool 129 rfl) fo_X11_46 hH (by omega) (by omega) rfl ?_
      refine hz_aloadn (pc := 272) 8 (hz_dec kX11_renewPool 130 rfl) rfl ?_
      refine hz_aloadn (pc := 273) 10 (hz_dec kX11_renewPool 131 rfl) rfl ?_
      refine hz_get (pc := 274) (hz_dec kX11_renewPool 132 rfl) fo_X11_217 hTq (by omega) (by omega) rfl ?_
      refine hz_get (pc := 277) (hz_dec kX11_renewPool 133 rfl) fo_X11_225 hrO (by omega) (by omega) rfl ?_
      refine hz_iload (pc := 280) 2 (hz_dec kX11_renewPool 134 rfl) rfl ?_
      refine hz_iload (pc := 282) 0 (hz_dec kX11_renewPool 135 rfl) rfl ?_
      refine hz_iconst (pc := 284) (v := nI 1) (hz_dec kX11_renewPool 136 rfl) (by decide) ?_
      refine hz_callV (pc := 285) (a := 25) (As := [.ref nb, .ref (nb + 21 + 1 + 1), .int (nI (offL (bl.map Prod.fst) (chE en old h) + bkS (bBy bl (chE en old h)) j)), .int (nI ((bkT (bBy bl (chE en old h)) j).length)), .int (nI 1)]) (st := []) (hz_dec kX11_renewPool 137 rfl) co_X11_292 im_X3_forPool se_X3_forPool rfl hj0 (by omega) (by omega) (c_forPool (wi := true) hN hnb hnbz hT hc hht hp (poW_T hpB j) hJ hf1 (by omega) (by omega) (by omega) (by decide) tA (by omega)) rfl (by decide) ⟨Nat.le_refl _, Nat.le_refl _⟩ (Nat.le_of_ble_eq_true rfl) rfl (fun r9 z9 M2 hp9 => ?_)
      obtain ⟨rfl, rfl, hf2, hJ2, hp2⟩ := hp9
      have hfr2 : frS [(9, 20), (25, 26), (58, 62), (nb + 2, nb + 14)] M0 M2 := hfr.tr (hf2.mono (fun q hq => by simp only [outS, and_true] at hq ⊢; omega))
      have hc2 : coR M2 (nb + 2) (coAt bl en tip) := hc.fr (fun q q1 q2 => hf2.at3 (by omega))
      refine hz_pop (pc := 288) (hz_dec kX11_renewPool 138 rfl) rfl ?_
      refine hz_iload (pc := 289) 2 (hz_dec kX11_renewPool 139 rfl) rfl ?_
      refine hz_iload (pc := 291) 0 (hz_dec kX11_renewPool 140 rfl) rfl ?_
      refine hz_addN (pc := 293) (hz_dec kX11_renewPool 141 rfl) ?_
      refine hz_istore (pc := 294) (i := 6) (lo2 := [(6, .int (nI ((offL (bl.map Prod.fst) (chE en old h) + bkS (bBy bl (chE en old h)) j) + ((bkT (bBy bl (chE en old h)) j).length)))), (10, .int (nI ((bkT (bBy bl (chE en old h)) j).length))), (9, .int (nI j)), (7, .int (nI (offL (bl.map Prod.fst) (chE en old h) + (bBy bl (chE en old h)).length))), (8, .int (nI (bkN (bBy bl (chE en old h))))), (5, .int (nI h)), (4, .int (nI (eH en old))), (0, .ref 8), (1, .ref nb), (2, .int (nI old)), (3, .ref (nb + 21))]) (hz_dec kX11_renewPool 142 rfl) (by decide) rfl ?_
      refine hz_incN (pc := 296) (i := 9) (lo2 := [(9, .int (nI (j + 1))), (6, .int (nI ((offL (bl.map Prod.fst) (chE en old h) + bkS (bBy bl (chE en old h)) j) + ((bkT (bBy bl (chE en old h)) j).length)))), (10, .int (nI ((bkT (bBy bl (chE en old h)) j).length))), (7, .int (nI (offL (bl.map Prod.fst) (chE en old h) + (bBy bl (chE en old h)).length))), (8, .int (nI (bkN (bBy bl (chE en old h))))), (5, .int (nI h)), (4, .int (nI (eH en old))), (0, .ref 8), (1, .ref nb), (2, .int (nI old)), (3, .ref (nb + 21))]) 2 (hz_dec kX11_renewPool 143 rfl) rfl (by decide) rfl ?_
      refine hz_goto (pc := 299) (tgt := 240) (hz_dec kX11_renewPool 144 rfl) (by decide) ?_
      have e9 : nI (offL (bl.map Prod.fst) (chE en old h) + bkS (bBy bl (chE en old h)) j + (bkT (bBy bl (chE en old h)) j).length) = nI (offL (bl.map Prod.fst) (chE en old h) + bkS (bBy bl (chE en old h)) (j + 1)) := by rw [t1, Nat.add_assoc]
      refine hz_pick (pc := 240) [0, 1, 3, 4, 5, 6, 7, 8, 9, 10] rfl ?_
      rw [e9]
      refine ih (bkN (bBy bl (chE en old h)) - (j + 1)) (by omega) (j + 1) M2 rfl (by omega) hfr2 hc2 hJ2 ?_ (h58.imp (fun L q => q.fr (fun x q1 q2 => hf2.at3 (by omega)))) ((hf2.at3 (by omega)).trans h61)
      unfold pnT
      rw [if_neg (by omega)]
      exact hp2
set_option maxHeartbeats 4000000 in
set_option maxRecDepth 100000 in
theorem c_rn3 {κ : hz_C} {z : Nat} {M0 : hz_M} (hz : 63 ≤ z) {tl : Nat} {tr : Int32} (hH0 : M0 8 = hoO tl tr) {nb : Nat} {nu up nx fu rc rf : Int32} (hN0 : M0 nb = ndO nb nu up nx fu rc rf) (hnb : 63 ≤ nb) (hnbz : nb + 34 ≤ z) {bl : List bk_B} {tip : Nat} {en : List en_E} (hT0 : trR M0 (nb + 21) bl tip en) (hbx : blX bl) (hht : coHt (coAt bl en tip)) {old : Nat} (hold : old < bl.length) {po0 : List po_P} (hpw0 : poW po0) {g61 : Nat → Int32} (hg61 : ∀ h, h ≤ eH en old → g61 h = nI (chE en old h)) {pO : List po_P} (hpO : poW pO) (hpe : pO = pnO (coAt bl en tip) (eH en tip + 1) po0 po0.length) : ∀ k h M, k = eH en old + 1 - h → h ≤ eH en old + 1 → frS [(9, 20), (25, 26), (58, 62), (nb + 2, nb + 14)] M0 M → coR M (nb + 2) (coAt bl en tip) → juS M z → plR M nb (pnB bl en tip old (coAt bl en tip) (eH en tip + 1) h pO) → (∃ L, rwR M 58 5728 16 L) → M 61 = .inl (0, 113, .inl g61) → hz_W κ xX11_renewPool 5 0 0 (fun r z2 M2 => none = r ∧ z = z2 ∧ frS [(9, 20), (25, 26), (58, 62), (nb + 2, nb + 14)] M0 M2 ∧ coR M2 (nb + 2) (coAt bl en tip) ∧ plR M2 nb (pnS bl en tip old po0) ∧ juS M2 z ∧ (∃ L, rwR M2 58 5728 16 L) ∧ ∃ g : Nat → Int32, M2 61 = .inl (0, 113, .inl g)) 0 0 157 [(5, .int (nI h)), (4, .int (nI (eH en old))), (0, .ref 8), (1, .ref nb), (2, .int (nI old)), (3, .ref (nb + 21))] [] z M := by
  intro k
  induction k using Nat.strongRecOn with
  | ind k ih =>
  intro h M hk hh1 hfr hc hJ hp h58 h61
  have hH := (hfr.at4 (q := 8) (by omega)).trans hH0
  have hN := (hfr.at4 (q := nb) (by omega)).trans hN0
  have hT : trR M (nb + 21) bl tip en := hT0.fr (fun q q1 q2 => hfr.at4 (by omega))
  have hTL : bl.length ≤ en.length ∧ wfE en ∧ bl.length ≤ 113 ∧ tip < bl.length := by obtain ⟨-, -, -, -, -, -, -, -, q1, q2, q3, q4, q5, q6⟩ := id hT; exact ⟨q2, q5, q1, q6⟩
  obtain ⟨hlen, hwf, hl113, htip⟩ := hTL
  have hoe := hwf.ht (k := old) (by omega)
  obtain ⟨hTq, ⟨hrO, hrle, hroff, f1, g1, hf1, hg1, hrX⟩, -⟩ := id hT
  rw [List.length_map] at hrO hrle hroff
  obtain ⟨bf, fe, hj0⟩ := id hJ.1
  refine hz_iload (pc := 157) 0 (hz_dec kX11_renewPool 75 rfl) rfl ?_
  refine hz_iload (pc := 159) 1 (hz_dec kX11_renewPool 76 rfl) rfl ?_
  refine hz_n_gt (pc := 161) (tgt := 308) (hz_dec kX11_renewPool 77 rfl) (by decide) (by omega) (by omega) (fun h1 => ?_) (fun h1 => ?_)
  · skip
    have e : h = eH en old + 1 := by omega
    exact hz_vret (pc := 308) (hz_dec kX11_renewPool 147 rfl) rfl ⟨rfl, rfl, hfr, hc, by unfold pnS; rw [← hpe, ← e]; exact hp, hJ, h58, _, h61⟩
  · skip
    have hch := chE_h hwf (tip := old) (x := h) (by omega) h1
    refine hz_aloadn (pc := 164) 5 (hz_dec kX11_renewPool 78 rfl) rfl ?_
    refine hz_aloadn (pc := 165) 2 (hz_dec kX11_renewPool 79 rfl) rfl ?_
    refine hz_get (pc := 166) (hz_dec kX11_renewPool 80 rfl) fo_X11_93 hH (by omega) (by omega) rfl ?_
    refine hz_iload (pc := 169) 0 (hz_dec kX11_renewPool 81 rfl) rfl ?_
    refine hz_iald (pc := 171) (j := h) (hz_dec kX11_renewPool 82 rfl) h61 (by omega) (by omega) rfl (by omega) (by omega) ?_
    refine hz_eqi (pc := 172) (hg61 (h) (by omega)) ?_
    refine hz_xV (pc := 172) (a := nb + 21) (As := [.int (nI (chE en old h))]) (st := []) (hz_dec kX11_renewPool 83 rfl) co_X11_395 im_X10_isOnChain se_X10_isOnChain rfl hTq (by omega) (by omega) (c_trOn hT (by omega) (by omega) (by omega)) rfl (by decide) ⟨Nat.le_refl _, Nat.le_refl _⟩ (Nat.le_of_ble_eq_true rfl) rfl ?_
    refine hz_if_eq (pc := 175) (tgt := 181) (hz_dec kX11_renewPool 84 rfl) (by decide) (fun h2 => ?_) (fun h2 => ?_)
    · skip
      have hW : blW (bBy bl (chE en old h)) := hbx _ (by omega)
      obtain ⟨hbf1, hbf2, hbf3, hbf4, hbf5, hbf6, hbf7⟩ := hW.f
      have hA : isA f1 (offL (bl.map Prod.fst) (chE en old h)) (bBy bl (chE en old h)) := by have q := hrX.2 (chE en old h) (by rw [List.length_map]; omega); rw [rowL_bl] at q; exact q
      have hom := offL_mono (bl.map Prod.fst) bl.length (chE en old h + 1) (by omega)
      have hos : offL (bl.map Prod.fst) (chE en old h + 1) = offL (bl.map Prod.fst) (chE en old h) + (bBy bl (chE en old h)).length := by simp only [offL]; rw [rowL_bl]
      refine hz_aloadn (pc := 181) 5 (hz_dec kX11_renewPool 86 rfl) rfl ?_
      refine hz_get (pc := 182) (hz_dec kX11_renewPool 87 rfl) fo_X11_217 hTq (by omega) (by omega) rfl ?_
      refine hz_get (pc := 185) (hz_dec kX11_renewPool 88 rfl) fo_X11_228 hrO (by omega) (by omega) rfl ?_
      refine hz_aloadn (pc := 188) 2 (hz_dec kX11_renewPool 89 rfl) rfl ?_
      refine hz_get (pc := 189) (hz_dec kX11_renewPool 90 rfl) fo_X11_93 hH (by omega) (by omega) rfl ?_
      refine hz_iload (pc := 192) 0 (hz_dec kX11_renewPool 91 rfl) rfl ?_
      refine hz_iald (pc := 194) (j := h) (hz_dec kX11_renewPool 92 rfl) h61 (by omega) (by omega) rfl (by omega) (by omega) ?_
      refine hz_eqi (pc := 195) (hg61 (h) (by omega)) ?_
      refine hz_iald (pc := 195) (j := chE en old h) (hz_dec kX11_renewPool 93 rfl) hg1 (by omega) (by omega) rfl (by omega) (by omega) ?_
      refine hz_eqi (pc := 196) (hrX.1 (chE en old h) (by rw [List.length_map]; omega)) ?_
      refine hz_istore (pc := 196) (i := 6) (lo2 := [(6, .int (nI (offL (bl.map Prod.fst) (chE en old h)))), (5, .int (nI h)), (4, .int (nI (eH en old))), (0, .ref 8), (1, .ref nb), (2, .int (nI old)), (3, .ref (nb + 21))]) (hz_dec kX11_renewPool 94 rfl) (by decide) rfl ?_
      refine hz_iload (pc := 198) 0 (hz_dec kX11_renewPool 95 rfl) rfl ?_
      refine hz_aloadn (pc := 200) 6 (hz_dec kX11_renewPool 96 rfl) rfl ?_
      refine hz_get (pc := 201) (hz_dec kX11_renewPool 97 rfl) fo_X11_217 hTq (by omega) (by omega) rfl ?_
      refine hz_aloadn (pc := 204) 3 (hz_dec kX11_renewPool 98 rfl) rfl ?_
      refine hz_get (pc := 205) (hz_dec kX11_renewPool 99 rfl) fo_X11_93 hH (by omega) (by omega) rfl ?_
      refine hz_iload (pc := 208) 1 (hz_dec kX11_renewPool 100 rfl) rfl ?_
      refine hz_iald (pc := 210) (j := h) (hz_dec kX11_renewPool 101 rfl) h61 (by omega) (by omega) rfl (by omega) (by omega) ?_
      refine hz_eqi (pc := 211) (hg61 (h) (by omega)) ?_
      refine hz_xV (pc := 211) (a := nb + 21 + 1) (As := [.int (nI (chE en old h))]) (st := [.int (nI (offL (bl.map Prod.fst) (chE en old h)))]) (hz_dec kX11_renewPool 102 rfl) co_X11_221 im_X7_lengthOf se_X7_lengthOf rfl hrO (by omega) (by omega) (c_lenOf (L := bl.map Prod.fst) ⟨by rw [List.length_map]; exact hrO, by rw [List.length_map]; exact hrle, by rw [List.length_map]; exact hroff, f1, g1, hf1, hg1, hrX⟩ (by omega) (by omega) (by decide) (by decide) (by rw [List.length_map]; omega)) rfl (by decide) ⟨Nat.le_refl _, Nat.le_refl _⟩ (Nat.le_of_ble_eq_true rfl) rfl ?_
      refine hz_eqi (pc := 214) (show _ = nI (bBy bl (chE en old h)).length by rw [rowL_bl]) ?_
      refine hz_addN (pc := 214) (hz_dec kX11_renewPool 103 rfl) ?_
      refine hz_istore (pc := 215) (i := 7) (lo2 := [(7, .int (nI ((offL (bl.map Prod.fst) (chE en old h)) + ((bBy bl (chE en old h)).length)))), (6, .int (nI (offL (bl.map Prod.fst) (chE en old h)))), (5, .int (nI h)), (4, .int (nI (eH en old))), (0, .ref 8), (1, .ref nb), (2, .int (nI old)), (3, .ref (nb + 21))]) (hz_dec kX11_renewPool 104 rfl) (by decide) rfl ?_
      refine hz_aloadn (pc := 217) 7 (hz_dec kX11_renewPool 105 rfl) rfl ?_
      refine hz_get (pc := 218) (hz_dec kX11_renewPool 106 rfl) fo_X11_217 hTq (by omega) (by omega) rfl ?_
      refine hz_get (pc := 221) (hz_dec kX11_renewPool 107 rfl) fo_X11_225 hrO (by omega) (by omega) rfl ?_
      refine hz_iload (pc := 224) 1 (hz_dec kX11_renewPool 108 rfl) rfl ?_
      refine hz_bipush (pc := 226) (v := nI 80) (hz_dec kX11_renewPool 109 rfl) (by decide) ?_
      refine hz_addN (pc := 228) (hz_dec kX11_renewPool 110 rfl) ?_
      refine hz_xS (pc := 229) (As := [.ref (nb + 21 + 1 + 1), .int (nI ((offL (bl.map Prod.fst) (chE en old h)) + 80))]) (st := []) (hz_dec kX11_renewPool 111 rfl) co_X11_358 sc_X0_one (c_one hf1 (by omega) (by omega) (by decide) (by omega)) rfl (by decide) ⟨Nat.le_refl _, Nat.le_refl _⟩ (Nat.le_of_ble_eq_true rfl) rfl ?_
      refine hz_eqi (pc := 232) (show _ = nI (bkN (bBy bl (chE en old h))) by rw [hA 80 (by omega), hbf3]) ?_
      refine hz_istore (pc := 232) (i := 8) (lo2 := [(8, .int (nI (bkN (bBy bl (chE en old h))))), (7, .int (nI ((offL (bl.map Prod.fst) (chE en old h)) + ((bBy bl (chE en old h)).length)))), (6, .int (nI (offL (bl.map Prod.fst) (chE en old h)))), (5, .int (nI h)), (4, .int (nI (eH en old))), (0, .ref 8), (1, .ref nb), (2, .int (nI old)), (3, .ref (nb + 21))]) (hz_dec kX11_renewPool 112 rfl) (by decide) rfl ?_
      refine hz_iinc (pc := 234) (i := 6) (w := nI (offL (bl.map Prod.fst) (chE en old h) + 81)) (lo2 := [(6, .int (nI (offL (bl.map Prod.fst) (chE en old h) + 81))), (8, .int (nI (bkN (bBy bl (chE en old h))))), (7, .int (nI ((offL (bl.map Prod.fst) (chE en old h)) + ((bBy bl (chE en old h)).length)))), (5, .int (nI h)), (4, .int (nI (eH en old))), (0, .ref 8), (1, .ref nb), (2, .int (nI old)), (3, .ref (nb + 21))]) 2 (hz_dec kX11_renewPool 113 rfl) rfl (nI_add _ 81) (by decide) rfl ?_
      refine hz_iconst (pc := 237) (v := nI 0) (hz_dec kX11_renewPool 114 rfl) (by decide) ?_
      refine hz_istore (pc := 238) (i := 9) (lo2 := [(9, .int (nI 0)), (6, .int (nI (offL (bl.map Prod.fst) (chE en old h) + 81))), (8, .int (nI (bkN (bBy bl (chE en old h))))), (7, .int (nI ((offL (bl.map Prod.fst) (chE en old h)) + ((bBy bl (chE en old h)).length)))), (5, .int (nI h)), (4, .int (nI (eH en old))), (0, .ref 8), (1, .ref nb), (2, .int (nI old)), (3, .ref (nb + 21))]) (hz_dec kX11_renewPool 115 rfl) (by decide) rfl ?_
      have e9 : nI (offL (bl.map Prod.fst) (chE en old h) + 81) = nI (offL (bl.map Prod.fst) (chE en old h) + bkS (bBy bl (chE en old h)) 0) := by rw [bkS_0]
      refine hz_pick (pc := 240) [0, 1, 3, 2, 4, 5, 6, 7, 8, 9] rfl ?_
      rw [e9]
      refine c_rn4 hz hH0 hN0 hnb hnbz hT0 hbx hht hold hpw0 h1 (poW_B hpO h) (fun M4 hfr4 hc4 hJ4 hp4 h584 h614 => ?_) (bkN (bBy bl (chE en old h))) 0 M rfl (by omega) hfr hc hJ hp h58 h61
      refine hz_incN (pc := 302) (i := 5) (lo2 := [(5, .int (nI (h + 1))), (4, .int (nI (eH en old))), (0, .ref 8), (1, .ref nb), (2, .int (nI old)), (3, .ref (nb + 21))]) 0 (hz_dec kX11_renewPool 145 rfl) rfl (by decide) rfl ?_
      refine hz_goto (pc := 305) (tgt := 157) (hz_dec kX11_renewPool 146 rfl) (by decide) ?_
      refine hz_pick (pc := 157) [0, 1, 2, 3, 4, 5] rfl ?_
      refine ih (eH en old + 1 - (h + 1)) (by omega) (h + 1) M4 rfl (by omega) hfr4 hc4 hJ4 ?_ h584 h614
      unfold pnB
      rw [if_neg (by rw [hz_b0 h2]; decide)]
      exact hp4
    · skip
      refine hz_goto (pc := 178) (tgt := 302) (hz_dec kX11_renewPool 85 rfl) (by decide) ?_
      refine hz_incN (pc := 302) (i := 5) (lo2 := [(5, .int (nI (h + 1))), (4, .int (nI (eH en old))), (0, .ref 8), (1, .ref nb), (2, .int (nI old)), (3, .ref (nb + 21))]) 0 (hz_dec kX11_renewPool 145 rfl) rfl (by decide) rfl ?_
      refine hz_goto (pc := 305) (tgt := 157) (hz_dec kX11_renewPool 146 rfl) (by decide) ?_
      refine hz_pick (pc := 157) [0, 1, 2, 3, 4, 5] rfl ?_
      refine ih (eH en old + 1 - (h + 1)) (by omega) (h + 1) M rfl (by omega) hfr hc hJ ?_ h58 h61
      unfold pnB
      rw [if_pos (hz_b1 h2)]
      exact hp
set_option maxHeartbeats 4000000 in
set_option maxRecDepth 100000 in
theorem c_rn2 {κ : hz_C} {z : Nat} {M0 : hz_M} (hz : 63 ≤ z) {tl : Nat} {tr : Int32} (hH0 : M0 8 = hoO tl tr) {nb : Nat} {nu up nx fu rc rf : Int32} (hN0 : M0 nb = ndO nb nu up nx fu rc rf) (hnb : 63 ≤ nb) (hnbz : nb + 34 ≤ z) {bl : List bk_B} {tip : Nat} {en : List en_E} (hT0 : trR M0 (nb + 21) bl tip en) (hbx : blX bl) (hht : coHt (coAt bl en tip)) {old : Nat} (hold : old < bl.length) {po0 : List po_P} (hpw0 : poW po0) : ∀ k i M, k = po0.length - i → i ≤ po0.length → frS [(9, 20), (25, 26), (58, 62), (nb + 2, nb + 14)] M0 M → coR M (nb + 2) (coAt bl en tip) → juS M z → plR M nb (pnO (coAt bl en tip) (eH en tip + 1) po0 i) → rwR M 58 5728 16 (po0.map Prod.fst) → (∃ g : Nat → Int32, M 61 = .inl (0, 113, .inl g)) → hz_W κ xX11_renewPool 5 0 0 (fun r z2 M2 => none = r ∧ z = z2 ∧ frS [(9, 20), (25, 26), (58, 62), (nb + 2, nb + 14)] M0 M2 ∧ coR M2 (nb + 2) (coAt bl en tip) ∧ plR M2 nb (pnS bl en tip old po0) ∧ juS M2 z ∧ (∃ L, rwR M2 58 5728 16 L) ∧ ∃ g : Nat → Int32, M2 61 = .inl (0, 113, .inl g)) 0 0 89 [(4, .int (nI i)), (0, .ref 8), (1, .ref nb), (2, .int (nI old)), (3, .ref (nb + 21))] [] z M := by
  intro k
  induction k using Nat.strongRecOn with
  | ind k ih =>
  intro i M hk hi hfr hc hJ hp h58 h61
  have hH := (hfr.at4 (q := 8) (by omega)).trans hH0
  have hN := (hfr.at4 (q := nb) (by omega)).trans hN0
  have hT : trR M (nb + 21) bl tip en := hT0.fr (fun q q1 q2 => hfr.at4 (by omega))
  have hTL : bl.length ≤ en.length ∧ wfE en ∧ bl.length ≤ 113 ∧ tip < bl.length := by obtain ⟨-, -, -, -, -, -, -, -, q1, q2, q3, q4, q5, q6⟩ := id hT; exact ⟨q2, q5, q1, q6⟩
  obtain ⟨hlen, hwf, hl113, htip⟩ := hTL
  have hoe := hwf.ht (k := old) (by omega)
  obtain ⟨hO58, hle58, hoff58, f58, g58, hf58, hg58, hX58⟩ := id h58
  rw [List.length_map] at hO58 hle58
  obtain ⟨bf, fe, hj0⟩ := id hJ.1
  have hT00 := hT.1
  obtain ⟨g61, hg61⟩ := id h61
  refine hz_iload (pc := 89) 0 (hz_dec kX11_renewPool 42 rfl) rfl ?_
  refine hz_aloadn (pc := 91) 1 (hz_dec kX11_renewPool 43 rfl) rfl ?_
  refine hz_get (pc := 92) (hz_dec kX11_renewPool 44 rfl) fo_X11_89 hH (by omega) (by omega) rfl ?_
  refine hz_get (pc := 95) (hz_dec kX11_renewPool 45 rfl) fo_X11_220 hO58 (by omega) (by omega) rfl ?_
  refine hz_n_ge (pc := 98) (tgt := 143) (hz_dec kX11_renewPool 46 rfl) (by decide) (by omega) (by omega) (fun h1 => ?_) (fun h1 => ?_)
  · skip
    have e : i = po0.length := by omega
    refine hz_aloadn (pc := 143) 4 (hz_dec kX11_renewPool 67 rfl) rfl ?_
    refine hz_iloadn (pc := 144) 3 (hz_dec kX11_renewPool 68 rfl) rfl ?_
    refine hz_aloadn (pc := 145) 1 (hz_dec kX11_renewPool 69 rfl) rfl ?_
    refine hz_get (pc := 146) (hz_dec kX11_renewPool 70 rfl) fo_X11_93 hH (by omega) (by omega) rfl ?_
    refine hz_callV (pc := 149) (a := nb + 21) (As := [.int (nI old), .ref 61]) (st := []) (hz_dec kX11_renewPool 71 rfl) co_X11_507 im_X10_follow se_X10_follow rfl hT00 (by omega) (by omega) (c_trFo hT.q (by omega) (by omega) hg61 (by decide) (by omega) (by decide) (by omega) hold (by omega)) rfl (by decide) ⟨Nat.le_refl _, Nat.le_refl _⟩ (Nat.le_of_ble_eq_true rfl) rfl (fun r9 z9 M9 hp9 => ?_)
    obtain ⟨rfl, rfl, g9, hg9, rfl⟩ := hp9
    refine hz_istore (pc := 152) (i := 4) (lo2 := [(4, .int (nI (eH en old))), (0, .ref 8), (1, .ref nb), (2, .int (nI old)), (3, .ref (nb + 21))]) (hz_dec kX11_renewPool 72 rfl) (by decide) rfl ?_
    refine hz_iconst (pc := 154) (v := nI 0) (hz_dec kX11_renewPool 73 rfl) (by decide) ?_
    refine hz_istore (pc := 155) (i := 5) (lo2 := [(5, .int (nI 0)), (4, .int (nI (eH en old))), (0, .ref 8), (1, .ref nb), (2, .int (nI old)), (3, .ref (nb + 21))]) (hz_dec kX11_renewPool 74 rfl) (by decide) rfl ?_
    refine hz_pick (pc := 157) [0, 1, 2, 3, 4, 5] rfl ?_
    refine c_rn3 hz hH0 hN0 hnb hnbz hT0 hbx hht hold hpw0 hg9 (poW_O po0.length) rfl (eH en old + 1) 0 _ rfl (by omega) (hfr.upr (by simp only [outS, and_true]; omega)) (hc.fr (fun q q1 q2 => va_up_ne _ _ (by omega))) ?_ (by rw [← e]; exact hp.fr (fun q q1 q2 => va_up_ne _ _ (by omega))) ⟨_, h58.fr (fun q q1 q2 => va_up_ne _ _ (by omega))⟩ (va_up_self _ _ _)
    exact hJ.fr (fun q q1 q2 q3 => va_up_ne _ _ (by omega)) (hJ.2.2.2.2.2.2.2.1.up (by decide)) (hJ.2.2.2.2.2.2.2.2.1.up (by decide)) (bf := bf) (fe := fe) ((va_up_ne _ _ (by decide)).trans hj0)
  · skip
    have hA : isA f58 (offL (po0.map Prod.fst) i) (poL po0 i) := by have q := hX58.2 i (by rw [List.length_map]; exact h1); rw [rowL_po] at q; exact q
    have hom := poW_off hpw0 i (by omega)
    have tl := txW_len (hpw0.2 i h1).1
    refine hz_aloadn (pc := 101) 1 (hz_dec kX11_renewPool 47 rfl) rfl ?_
    refine hz_get (pc := 102) (hz_dec kX11_renewPool 48 rfl) fo_X11_46 hH (by omega) (by omega) rfl ?_
    refine hz_aloadn (pc := 105) 2 (hz_dec kX11_renewPool 49 rfl) rfl ?_
    refine hz_aloadn (pc := 106) 1 (hz_dec kX11_renewPool 50 rfl) rfl ?_
    refine hz_get (pc := 107) (hz_dec kX11_renewPool 51 rfl) fo_X11_89 hH (by omega) (by omega) rfl ?_
    refine hz_get (pc := 110) (hz_dec kX11_renewPool 52 rfl) fo_X11_225 hO58 (by omega) (by omega) rfl ?_
    refine hz_aloadn (pc := 113) 1 (hz_dec kX11_renewPool 53 rfl) rfl ?_
    refine hz_get (pc := 114) (hz_dec kX11_renewPool 54 rfl) fo_X11_89 hH (by omega) (by omega) rfl ?_
    refine hz_get (pc := 117) (hz_dec kX11_renewPool 55 rfl) fo_X11_228 hO58 (by omega) (by omega) rfl ?_
    refine hz_iload (pc := 120) 0 (hz_dec kX11_renewPool 56 rfl) rfl ?_
    refine hz_iald (pc := 122) (j := i) (hz_dec kX11_renewPool 57 rfl) hg58 (by omega) (by omega) rfl (by omega) (by omega) ?_
    refine hz_eqi (pc := 123) (hX58.1 (i) (by rw [List.length_map]; omega)) ?_
    refine hz_aloadn (pc := 123) 1 (hz_dec kX11_renewPool 58 rfl) rfl ?_
    refine hz_get (pc := 124) (hz_dec kX11_renewPool 59 rfl) fo_X11_89 hH (by omega) (by omega) rfl ?_
    refine hz_iload (pc := 127) 0 (hz_dec kX11_renewPool 60 rfl) rfl ?_
    refine hz_xV (pc := 129) (a := 58) (As := [.int (nI i)]) (st := [.int (nI (offL (po0.map Prod.fst) (i))), .ref (58 + 1), .ref nb, .ref 25]) (hz_dec kX11_renewPool 61 rfl) co_X11_221 im_X7_lengthOf se_X7_lengthOf rfl hO58 (by omega) (by omega) (c_lenOf h58 (by decide) (by omega) (by decide) (by decide) (by rw [List.length_map]; exact h1)) rfl (by decide) ⟨Nat.le_refl _, Nat.le_refl _⟩ (Nat.le_of_ble_eq_true rfl) rfl ?_
    refine hz_eqi (pc := 132) (show _ = nI (poL po0 i).length by rw [rowL_po]) ?_
    refine hz_iconst (pc := 132) (v := nI 1) (hz_dec kX11_renewPool 62 rfl) (by decide) ?_
    refine hz_callV (pc := 133) (a := 25) (As := [.ref nb, .ref (58 + 1), .int (nI (offL (po0.map Prod.fst) (i))), .int (nI ((poL po0 i).length)), .int (nI 1)]) (st := []) (hz_dec kX11_renewPool 63 rfl) co_X11_292 im_X3_forPool se_X3_forPool rfl hj0 (by omega) (by omega) (c_forPool (wi := true) hN hnb hnbz hT hc hht hp (poW_O i) hJ hf58 (by decide) (by omega) (by omega) (by decide) hA (by omega)) rfl (by decide) ⟨Nat.le_refl _, Nat.le_refl _⟩ (Nat.le_of_ble_eq_true rfl) rfl (fun r9 z9 M2 hp9 => ?_)
    obtain ⟨rfl, rfl, hf2, hJ2, hp2⟩ := hp9
    have hfr2 : frS [(9, 20), (25, 26), (58, 62), (nb + 2, nb + 14)] M0 M2 := hfr.tr (hf2.mono (fun q hq => by simp only [outS, and_true] at hq ⊢; omega))
    have hc2 : coR M2 (nb + 2) (coAt bl en tip) := hc.fr (fun q q1 q2 => hf2.at3 (by omega))
    refine hz_pop (pc := 136) (hz_dec kX11_renewPool 64 rfl) rfl ?_
    refine hz_incN (pc := 137) (i := 4) (lo2 := [(4, .int (nI (i + 1))), (0, .ref 8), (1, .ref nb), (2, .int (nI old)), (3, .ref (nb + 21))]) 0 (hz_dec kX11_renewPool 65 rfl) rfl (by decide) rfl ?_
    refine hz_goto (pc := 140) (tgt := 89) (hz_dec kX11_renewPool 66 rfl) (by decide) ?_
    refine hz_pick (pc := 89) [0, 1, 2, 3, 4] rfl ?_
    exact ih (po0.length - (i + 1)) (by omega) (i + 1) M2 rfl (by omega) hfr2 hc2 hJ2 hp2 (h58.fr (fun x q1 q2 => hf2.at3 (by omega))) ⟨g61, (hf2.at3 (by omega)).trans hg61⟩
set_option maxHeartbeats 4000000 in
set_option maxRecDepth 100000 in
theorem c_rn1 {κ : hz_C} {z : Nat} {M0 : hz_M} (hz : 63 ≤ z) {tl : Nat} {tr : Int32} (hH0 : M0 8 = hoO tl tr) {nb : Nat} {nu up nx fu rc rf : Int32} (hN0 : M0 nb = ndO nb nu up nx fu rc rf) (hnb : 63 ≤ nb) (hnbz : nb + 34 ≤ z) {bl : List bk_B} {tip : Nat} {en : List en_E} (hT0 : trR M0 (nb + 21) bl tip en) (hbx : blX bl) (hht : coHt (coAt bl en tip)) {old : Nat} (hold : old < bl.length) {po0 : List po_P} (hpw0 : poW po0) : ∀ k i M, k = po0.length - i → i ≤ po0.length → frS [(9, 20), (25, 26), (58, 62), (nb + 2, nb + 14)] M0 M → coR M (nb + 2) (coAt bl en tip) → juS M z → plR M nb po0 → rwR M 58 5728 16 ((po0.map Prod.fst).take i) → (∃ g : Nat → Int32, M 61 = .inl (0, 113, .inl g)) → hz_W κ xX11_renewPool 5 0 0 (fun r z2 M2 => none = r ∧ z = z2 ∧ frS [(9, 20), (25, 26), (58, 62), (nb + 2, nb + 14)] M0 M2 ∧ coR M2 (nb + 2) (coAt bl en tip) ∧ plR M2 nb (pnS bl en tip old po0) ∧ juS M2 z ∧ (∃ L, rwR M2 58 5728 16 L) ∧ ∃ g : Nat → Int32, M2 61 = .inl (0, 113, .inl g)) 0 0 27 [(4, .int (nI i)), (0, .ref 8), (1, .ref nb), (2, .int (nI old)), (3, .ref (nb + 21))] [] z M := by
  intro k
  induction k using Nat.strongRecOn with
  | ind k ih =>
  intro i M hk hi hfr hc hJ hp h58 h61
  have hH := (hfr.at4 (q := 8) (by omega)).trans hH0
  have hN := (hfr.at4 (q := nb) (by omega)).trans hN0
  have hT : trR M (nb + 21) bl tip en := hT0.fr (fun q q1 q2 => hfr.at4 (by omega))
  have hTL : bl.length ≤ en.length ∧ wfE en ∧ bl.length ≤ 113 ∧ tip < bl.length := by obtain ⟨-, -, -, -, -, -, -, -, q1, q2, q3, q4, q5, q6⟩ := id hT; exact ⟨q2, q5, q1, q6⟩
  obtain ⟨hlen, hwf, hl113, htip⟩ := hTL
  have hoe := hwf.ht (k := old) (by omega)
  have hpr := hp.1
  obtain ⟨hOp, hlep, hoffp, fp, gp, hfp, hgp, hXp⟩ := id hpr
  rw [List.length_map] at hOp hlep
  have h58O := h58.1
  have hT00 := hT.1
  have hpl := hpw0.1
  refine hz_iload (pc := 27) 0 (hz_dec kX11_renewPool 14 rfl) rfl ?_
  refine hz_aloadn (pc := 29) 2 (hz_dec kX11_renewPool 15 rfl) rfl ?_
  refine hz_get (pc := 30) (hz_dec kX11_renewPool 16 rfl) fo_X11_257 hN (by omega) (by omega) rfl ?_
  refine hz_get (pc := 33) (hz_dec kX11_renewPool 17 rfl) fo_X11_220 hOp (by omega) (by omega) rfl ?_
  refine hz_n_ge (pc := 36) (tgt := 79) (hz_dec kX11_renewPool 18 rfl) (by decide) (by omega) (by omega) (fun h1 => ?_) (fun h1 => ?_)
  · skip
    have e : i = po0.length := by omega
    have hr9 : rwR M 58 5728 16 (po0.map Prod.fst) := by rw [e, ← List.length_map (f := Prod.fst), List.take_length] at h58; exact h58
    refine hz_aloadn (pc := 79) 2 (hz_dec kX11_renewPool 37 rfl) rfl ?_
    refine hz_get (pc := 80) (hz_dec kX11_renewPool 38 rfl) fo_X11_257 hN (by omega) (by omega) rfl ?_
    refine hz_callV (pc := 83) (a := nb + 10) (As := []) (st := []) (hz_dec kX11_renewPool 39 rfl) co_X11_502 im_X7_clear se_X7_clear rfl hOp (by omega) (by omega) (c_rwClr hpr (by omega) (by omega) (by decide) (by decide)) rfl (by decide) ⟨Nat.le_refl _, Nat.le_refl _⟩ (Nat.le_of_ble_eq_true rfl) rfl (fun r9 z9 M2 hp9 => ?_)
    obtain ⟨rfl, rfl, hf2, hr2⟩ := hp9
    have hfr2 : frS [(9, 20), (25, 26), (58, 62), (nb + 2, nb + 14)] M0 M2 := hfr.tr (hf2.mono (fun q hq => by simp only [outS, and_true] at hq ⊢; omega))
    obtain ⟨bf, fe, hj0⟩ := id hJ.1
    have hJ2 : juS M2 z := hJ.fr (fun q q1 q2 q3 => hf2.at1 (by omega)) (hJ.2.2.2.2.2.2.2.1.fs (hf2.at1 (by omega)) (hf2.at1 (by omega))) (hJ.2.2.2.2.2.2.2.2.1.fs (fun q q1 q2 => hf2.at1 (by omega))) (bf := bf) (fe := fe) ((hf2.at1 (by omega)).trans hj0)
    have hp2 : plR M2 nb (pnO (coAt bl en tip) (eH en tip + 1) po0 0) := ⟨hr2, by obtain ⟨ff, q1, -⟩ := hp.2; exact ⟨ff, (hf2.at1 (by omega)).trans q1, fun k hk => absurd hk (Nat.not_lt_zero k)⟩⟩
    refine hz_iconst (pc := 86) (v := nI 0) (hz_dec kX11_renewPool 40 rfl) (by decide) ?_
    refine hz_istore (pc := 87) (i := 4) (lo2 := [(4, .int (nI 0)), (0, .ref 8), (1, .ref nb), (2, .int (nI old)), (3, .ref (nb + 21))]) (hz_dec kX11_renewPool 41 rfl) (by decide) rfl ?_
    refine hz_pick (pc := 89) [0, 1, 2, 3, 4] rfl ?_
    exact c_rn2 hz hH0 hN0 hnb hnbz hT0 hbx hht hold hpw0 po0.length 0 M2 rfl (by omega) hfr2 (hc.fr (fun q q1 q2 => hf2.at1 (by omega))) hJ2 hp2 (hr9.fr (fun q q1 q2 => hf2.at1 (by omega))) (h61.imp (fun g q => (hf2.at1 (by omega)).trans q))
  · skip
    have hA : isA fp (offL (po0.map Prod.fst) i) (poL po0 i) := by have q := hXp.2 i (by rw [List.length_map]; exact h1); rw [rowL_po] at q; exact q
    have hom := poW_off hpw0 i (by omega)
    have tl := txW_len (hpw0.2 i h1).1
    have hmi : i < (po0.map Prod.fst).length := by rw [List.length_map]; exact h1
    have htl9 : ((po0.map Prod.fst).take i).length = i := by rw [List.length_take]; omega
    refine hz_aloadn (pc := 39) 1 (hz_dec kX11_renewPool 19 rfl) rfl ?_
    refine hz_get (pc := 40) (hz_dec kX11_renewPool 20 rfl) fo_X11_89 hH (by omega) (by omega) rfl ?_
    refine hz_aloadn (pc := 43) 2 (hz_dec kX11_renewPool 21 rfl) rfl ?_
    refine hz_get (pc := 44) (hz_dec kX11_renewPool 22 rfl) fo_X11_257 hN (by omega) (by omega) rfl ?_
    refine hz_get (pc := 47) (hz_dec kX11_renewPool 23 rfl) fo_X11_225 hOp (by omega) (by omega) rfl ?_
    refine hz_aloadn (pc := 50) 2 (hz_dec kX11_renewPool 24 rfl) rfl ?_
    refine hz_get (pc := 51) (hz_dec kX11_renewPool 25 rfl) fo_X11_257 hN (by omega) (by omega) rfl ?_
    refine hz_get (pc := 54) (hz_dec kX11_renewPool 26 rfl) fo_X11_228 hOp (by omega) (by omega) rfl ?_
    refine hz_iload (pc := 57) 0 (hz_dec kX11_renewPool 27 rfl) rfl ?_
    refine hz_iald (pc := 59) (j := i) (hz_dec kX11_renewPool 28 rfl) hgp (by omega) (by omega) rfl (by omega) (by omega) ?_
    refine hz_eqi (pc := 60) (hXp.1 (i) (by rw [List.length_map]; omega)) ?_
    refine hz_aloadn (pc := 60) 2 (hz_dec kX11_renewPool 29 rfl) rfl ?_
    refine hz_get (pc := 61) (hz_dec kX11_renewPool 30 rfl) fo_X11_257 hN (by omega) (by omega) rfl ?_
    refine hz_iload (pc := 64) 0 (hz_dec kX11_renewPool 31 rfl) rfl ?_
    refine hz_xV (pc := 66) (a := nb + 10) (As := [.int (nI i)]) (st := [.int (nI (offL (po0.map Prod.fst) (i))), .ref (nb + 10 + 1), .ref 58]) (hz_dec kX11_renewPool 32 rfl) co_X11_221 im_X7_lengthOf se_X7_lengthOf rfl hOp (by omega) (by omega) (c_lenOf hpr (by omega) (by omega) (by decide) (by decide) (by rw [List.length_map]; exact h1)) rfl (by decide) ⟨Nat.le_refl _, Nat.le_refl _⟩ (Nat.le_of_ble_eq_true rfl) rfl ?_
    refine hz_eqi (pc := 69) (show _ = nI (poL po0 i).length by rw [rowL_po]) ?_
    refine hz_callV (pc := 69) (a := 58) (As := [.ref (nb + 10 + 1), .int (nI (offL (po0.map Prod.fst) (i))), .int (nI ((poL po0 i).length))]) (st := []) (hz_dec kX11_renewPool 33 rfl) co_X11_505 im_X7_add se_X7_add rfl h58O (by omega) (by omega) (c_rwAdd h58 (by decide) (by omega) (by decide) (by decide) hfp (by omega) (by omega) (by decide) hA (by omega) (by omega) (by omega) (by rw [htl9, offL_take (Nat.le_refl _)]; omega)) rfl (by decide) ⟨Nat.le_refl _, Nat.le_refl _⟩ (Nat.le_of_ble_eq_true rfl) rfl (fun r9 z9 M2 hp9 => ?_)
    obtain ⟨rfl, rfl, hf2, hr2⟩ := hp9
    have hfr2 : frS [(9, 20), (25, 26), (58, 62), (nb + 2, nb + 14)] M0 M2 := hfr.tr (hf2.mono (fun q hq => by simp only [outS, and_true] at hq ⊢; omega))
    have e9 : (po0.map Prod.fst)[i] = poL po0 i := by rw [← rowL_po]; unfold rowL; rw [List.getD_eq_getElem?_getD, List.getElem?_eq_getElem hmi]; rfl
    have hr3 : rwR M2 58 5728 16 ((po0.map Prod.fst).take (i + 1)) := by rw [take_st _ hmi, e9]; exact hr2
    obtain ⟨bf, fe, hj0⟩ := id hJ.1
    have hJ2 : juS M2 z := hJ.fr (fun q q1 q2 q3 => hf2.at1 (by omega)) (hJ.2.2.2.2.2.2.2.1.fs (hf2.at1 (by omega)) (hf2.at1 (by omega))) (hJ.2.2.2.2.2.2.2.2.1.fs (fun q q1 q2 => hf2.at1 (by omega))) (bf := bf) (fe := fe) ((hf2.at1 (by omega)).trans hj0)
    refine hz_pop (pc := 72) (hz_dec kX11_renewPool 34 rfl) rfl ?_
    refine hz_incN (pc := 73) (i := 4) (lo2 := [(4, .int (nI (i + 1))), (0, .ref 8), (1, .ref nb), (2, .int (nI old)), (3, .ref (nb + 21))]) 0 (hz_dec kX11_renewPool 35 rfl) rfl (by decide) rfl ?_
    refine hz_goto (pc := 76) (tgt := 27) (hz_dec kX11_renewPool 36 rfl) (by decide) ?_
    refine hz_pick (pc := 27) [0, 1, 2, 3, 4] rfl ?_
    exact ih (po0.length - (i + 1)) (by omega) (i + 1) M2 rfl (by omega) hfr2 (hc.fr (fun q q1 q2 => hf2.at1 (by omega))) hJ2 (hp.fr (fun q q1 q2 => hf2.at1 (by omega))) hr3 (h61.imp (fun g q => (hf2.at1 (by omega)).trans q))
set_option maxHeartbeats 4000000 in
set_option maxRecDepth 100000 in
theorem c_renew {κ : hz_C} {z : Nat} {M : hz_M} (hz : 63 ≤ z) {tl : Nat} {tr : Int32} (hH0 : M 8 = hoO tl tr) {nb : Nat} {nu up nx fu rc rf : Int32} (hN0 : M nb = ndO nb nu up nx fu rc rf) (hnb : 63 ≤ nb) (hnbz : nb + 34 ≤ z) {bl : List bk_B} {tip : Nat} {en : List en_E} (hT0 : trR M (nb + 21) bl tip en) (hbx : blX bl) (hht : coHt (coAt bl en tip)) {old : Nat} (hold : old < bl.length) {po0 : List po_P} (hpw0 : poW po0) (hcb : cbX bl en tip) {cs0 : List co_C} (hc0 : coR M (nb + 2) cs0) (hp0 : plR M nb po0) (hJ : juS M z) {L0 : List by_L} (h58 : rwR M 58 5728 16 L0) (h61 : ∃ g : Nat → Int32, M 61 = .inl (0, 113, .inl g)) : hz_Mt κ xX11_renewPool 5 0 0 [.ref 8, .ref nb, .int (nI old)] z M (fun r z2 M2 => none = r ∧ z = z2 ∧ frS [(9, 20), (25, 26), (58, 62), (nb + 2, nb + 14)] M M2 ∧ coR M2 (nb + 2) (coAt bl en tip) ∧ plR M2 nb (pnS bl en tip old po0) ∧ juS M2 z ∧ (∃ L, rwR M2 58 5728 16 L) ∧ ∃ g : Nat → Int32, M2 61 = .inl (0, 113, .inl g)) := by
  refine hz_ent (lo := [(0, .ref 8), (1, .ref nb), (2, .int (nI old))]) (by decide) (Nat.le_of_ble_eq_true rfl) rfl ?_
  have htip : tip < bl.length := by obtain ⟨-, -, -, -, -, -, -, -, q1, q2, q3, q4, q5, q6⟩ := id hT0; exact q6
  refine hz_aloadn (pc := 0) 1 (hz_dec kX11_renewPool 0 rfl) rfl ?_
  refine hz_get (pc := 1) (hz_dec kX11_renewPool 1 rfl) fo_X11_104 hN0 (by omega) (by omega) rfl ?_
  refine hz_astoren (pc := 4) (i := 3) (lo2 := [(3, .ref (nb + 21)), (0, .ref 8), (1, .ref nb), (2, .int (nI old))]) (hz_dec kX11_renewPool 2 rfl) rfl (by decide) rfl ?_
  refine hz_aloadn (pc := 5) 2 (hz_dec kX11_renewPool 3 rfl) rfl ?_
  refine hz_get (pc := 6) (hz_dec kX11_renewPool 4 rfl) fo_X11_170 hN0 (by omega) (by omega) rfl ?_
  refine hz_aloadn (pc := 9) 0 (hz_dec kX11_renewPool 5 rfl) rfl ?_
  refine hz_aloadn (pc := 10) 0 (hz_dec kX11_renewPool 6 rfl) rfl ?_
  refine hz_get (pc := 11) (hz_dec kX11_renewPool 7 rfl) fo_X11_235 hT0.1 (by omega) (by omega) rfl ?_
  refine hz_callV (pc := 14) (a := nb + 2) (As := [.ref (nb + 21), .int (nI tip)]) (st := []) (hz_dec kX11_renewPool 8 rfl) co_X11_498 im_X1_replay se_X1_replay rfl hc0.1 (by omega) (by omega) (c_rep hT0 (by omega) (by omega) hc0 (by omega) (by omega) (by omega) htip hbx hcb) rfl (by decide) ⟨Nat.le_refl _, Nat.le_refl _⟩ (Nat.le_of_ble_eq_true rfl) rfl (fun r9 z9 M1 hp9 => ?_)
  obtain ⟨rfl, rfl, hf1, hc1⟩ := hp9
  have hH1 := (hf1.at1 (q := 8) (by omega)).trans hH0
  have hr1 : rwR M1 58 5728 16 L0 := h58.fr (fun q q1 q2 => hf1.at1 (by omega))
  have hr1O := hr1.1
  refine hz_aloadn (pc := 17) 1 (hz_dec kX11_renewPool 9 rfl) rfl ?_
  refine hz_get (pc := 18) (hz_dec kX11_renewPool 10 rfl) fo_X11_89 hH1 (by omega) (by omega) rfl ?_
  refine hz_callV (pc := 21) (a := 58) (As := []) (st := []) (hz_dec kX11_renewPool 11 rfl) co_X11_502 im_X7_clear se_X7_clear rfl hr1O (by omega) (by omega) (c_rwClr hr1 (by decide) (by omega) (by decide) (by decide)) rfl (by decide) ⟨Nat.le_refl _, Nat.le_refl _⟩ (Nat.le_of_ble_eq_true rfl) rfl (fun r9 z9 M2 hp9 => ?_)
  obtain ⟨rfl, rfl, hf2, hr2⟩ := hp9
  have hfr2 : frS [(9, 20), (25, 26), (58, 62), (nb + 2, nb + 14)] M M2 := (hf1.mono (fun q hq => by simp only [outS, and_true] at hq ⊢; omega)).tr (hf2.mono (fun q hq => by simp only [outS, and_true] at hq ⊢; omega))
  obtain ⟨bf, fe, hj0⟩ := id hJ.1
  have e9 : ∀ q, (q < 58 ∨ 59 ≤ q) ∧ (q < nb + 2 ∨ nb + 10 ≤ q) → M2 q = M q := fun q hq => (hf2.at1 (by omega)).trans (hf1.at1 (by omega))
  have hJ2 : juS M2 z := hJ.fr (fun q q1 q2 q3 => e9 q (by omega)) (hJ.2.2.2.2.2.2.2.1.fs (e9 _ (by omega)) (e9 _ (by omega))) (hJ.2.2.2.2.2.2.2.2.1.fs (fun q q1 q2 => e9 q (by omega))) (bf := bf) (fe := fe) ((e9 _ (by omega)).trans hj0)
  refine hz_iconst (pc := 24) (v := nI 0) (hz_dec kX11_renewPool 12 rfl) (by decide) ?_
  refine hz_istore (pc := 25) (i := 4) (lo2 := [(4, .int (nI 0)), (3, .ref (nb + 21)), (0, .ref 8), (1, .ref nb), (2, .int (nI old))]) (hz_dec kX11_renewPool 13 rfl) (by decide) rfl ?_
  refine hz_pick (pc := 27) [0, 2, 3, 4, 1] rfl ?_
  exact c_rn1 hz hH0 hN0 hnb hnbz hT0 hbx hht hold hpw0 po0.length 0 M2 rfl (by omega) hfr2 (hc1.fr (fun q q1 q2 => hf2.at1 (by omega))) hJ2 (hp0.fr (fun q q1 q2 => e9 q (by omega))) hr2 (h61.imp (fun g q => (e9 _ (by omega)).trans q))
