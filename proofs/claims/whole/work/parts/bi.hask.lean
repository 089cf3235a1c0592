/-! messages of hashes: ASK -/
def adB (bl : List bk_B) (en : List en_E) (tip : Nat) (l : by_L) (i : Nat) : Bool := decide (blF bl (hsI l i) < bl.length ∧ onC en tip (blF bl (hsI l i)) = true)
/-- how many headers follow block k on the chain, 16 at most -/
def adM (en : List en_E) (tip k : Nat) : Nat := min (eH en tip) (eH en k + 16) - eH en k
def hdB (bl : List bk_B) (en : List en_E) (tip h0 : Nat) : Nat → by_L
  | 0 => []
  | m + 1 => hdB bl en tip h0 m ++ hdS (bBy bl (chE en tip (h0 + m)))
theorem hdB_len (bl : List bk_B) (en : List en_E) (tip h0 : Nat) : ∀ m, (hdB bl en tip h0 m).length = 80 * m := by
  intro m
  induction m with
  | zero => rfl
  | succ m ih => show (hdB bl en tip h0 m ++ _).length = _; rw [List.length_append, ih, hdS_len]; omega
def adK (bl : List bk_B) (en : List en_E) (tip : Nat) (l : by_L) (n : Nat) : Nat := blF bl (hsI l (fsI (adB bl en tip l) n))
def adQ (now : Int32) (v : Nat) (fr : Int32) (d : Nat) (S : ks_S) (l : by_L) (n : Nat) : mq_S := if fsI (adB (ksB S) (enB (ksB S)) (ksT S) l) n < n ∧ ¬ adM (enB (ksB S)) (ksT S) (adK (ksB S) (enB (ksB S)) (ksT S) l n) = 0 then sd1 now (nI v) fr (nI 3) d (hdB (ksB S) (enB (ksB S)) (ksT S) (eH (enB (ksB S)) (adK (ksB S) (enB (ksB S)) (ksT S) l n) + 1) (adM (enB (ksB S)) (ksT S) (adK (ksB S) (enB (ksB S)) (ksT S) l n))) (ksQ S) else ksQ S
set_option maxHeartbeats 4000000 in
set_option maxRecDepth 100000 in
theorem c_hAsk_i {κ : hz_C} {z nb nn v tl : Nat} {tr now fr kn rc rf : Int32} {dl : Nat → Nat} (hnb : 63 ≤ nb) (hnbz : nb + 34 ≤ z) (hnn : nn ≤ 6) (hvn : v < nn) {d : Nat} (hto : (∃ b, b < nn ∧ fr = nI b ∧ d = dl (6 * v + b)) ∨ (fr < 0 ∧ d = 0)) {M : hz_M} {S : ks_S} {l : by_L} (hR : kcR M z nb nn v tl tr now fr kn rc rf (nI 1) dl l.length S) (hI : ksI S) (hl4 : l.length ≤ 4000) {gl : Nat → Int32} (hgl : M 53 = .inl (1, 4000, .inl gl)) (hgA : isA gl 0 l) {g57 : Nat → Int32} (h57 : M 57 = .inl (1, 1280, .inl g57)) {n : Nat} (hn : n ≤ 16) (hnl : 32 * n = l.length) {x : Nat} (hx : x < (ksB S).length) (hxa : x = adK (ksB S) (enB (ksB S)) (ksT S) l n) (hfn : fsI (adB (ksB S) (enB (ksB S)) (ksT S) l) n < n) (hxt : eH (enB (ksB S)) x ≤ eH (enB (ksB S)) (ksT S)) : ∀ k m M2 (g : Nat → Int32), k = adM (enB (ksB S)) (ksT S) x - m → m ≤ adM (enB (ksB S)) (ksT S) x → frS [(57, 58)] M M2 → M2 57 = .inl (1, 1280, .inl g) → isA g 0 (hdB (ksB S) (enB (ksB S)) (ksT S) (eH (enB (ksB S)) x + 1) m) → hz_W κ xX11_hearAsk 4 0 0 (fun r z2 M2 => none = r ∧ z = z2 ∧ frS [(45, 53), (57, 58)] M M2 ∧ kcR M2 z nb nn v tl tr now fr kn rc rf (nI 1) dl l.length (ksq S (adQ now v fr d S l n)) ∧ ∃ g : Nat → Int32, M2 57 = .inl (1, 1280, .inl g)) 0 0 88 [(8, .int (nI (eH (enB (ksB S)) x + 1 + m))), (7, .int (nI (eH (enB (ksB S)) x + adM (enB (ksB S)) (ksT S) x))), (6, .int (nI (eH (enB (ksB S)) x + 1))), (0, .ref 8), (1, .ref nb), (3, .ref (nb + 21))] [] z M2 := by
  intro k
  induction k using Nat.strongRecOn with
  | ind k ih =>
  intro m M2 g hk hm hfr hg57 hgA2
  obtain ⟨hH, hNs, hN, ⟨gD, hD, hDX⟩, hT, hc, hp, hL, hJ, hml, ⟨g53, h53⟩, ⟨L58, h58⟩, g61, h61⟩ := id hR
  obtain ⟨i1, i2, i3, i4, i5⟩ := id hI
  have hz63 : 63 ≤ z := by omega
  have htop := i1.top
  have hTO := hT.1
  obtain ⟨-, ⟨hrO, hrle, hroff, f1, g1, hf1, hg1, hrX⟩, -, ⟨fb, fht, ftm, fbi, hfb, hfht, hftm, hfbi, hEX⟩, -, -, ⟨fc, hfc, hfcX⟩, -⟩ := id hT
  rw [List.length_map] at hrO hrle hroff
  have hte := i1.2.2.2.2.1.ht (k := ksT S) (by rw [enB_len]; exact i2)
  have hM16 : adM (enB (ksB S)) (ksT S) x ≤ 16 ∧ eH (enB (ksB S)) x + adM (enB (ksB S)) (ksT S) x ≤ eH (enB (ksB S)) (ksT S) := by unfold adM; omega
  have hlen := hdB_len (ksB S) (enB (ksB S)) (ksT S) (eH (enB (ksB S)) x + 1) m
  refine hz_iload (pc := 88) 0 (hz_dec kX11_hearAsk 46 rfl) rfl ?_
  refine hz_iload (pc := 90) 1 (hz_dec kX11_hearAsk 47 rfl) rfl ?_
  refine hz_n_gt (pc := 92) (tgt := 144) (hz_dec kX11_hearAsk 48 rfl) (by decide) (by omega) (by omega) (fun h1 => ?_) (fun h1 => ?_)
  · skip
    have e : m = adM (enB (ksB S)) (ksT S) x := by omega
    refine hz_iload (pc := 144) 2 (hz_dec kX11_hearAsk 73 rfl) rfl ?_
    refine hz_iload (pc := 146) 1 (hz_dec kX11_hearAsk 74 rfl) rfl ?_
    refine hz_n_gt (pc := 148) (tgt := 186) (hz_dec kX11_hearAsk 75 rfl) (by decide) (by omega) (by omega) (fun h2 => ?_) (fun h2 => ?_)
    · skip
      have eQ : adQ now v fr d S l n = ksQ S := by unfold adQ; rw [← hxa, if_neg (fun q => q.2 (by omega))]
      exact hz_vret (pc := 186) (hz_dec kX11_hearAsk 96 rfl) rfl ⟨rfl, rfl, hfr.mono (fun q hq => by simp only [outS, and_true] at hq ⊢; omega), by rw [eQ]; exact hR.ml hnb (fun q q1 q2 => hfr.at1 (by omega)) (hml.fr (fun q q1 q2 q3 => hfr.at1 (by omega))), _, hg57⟩
    · skip
      have eQ : adQ now v fr d S l n = sd1 now (nI v) fr (nI 3) d (hdB (ksB S) (enB (ksB S)) (ksT S) (eH (enB (ksB S)) x + 1) m) (ksQ S) := by unfold adQ; rw [← hxa, ← e, if_pos ⟨hfn, by omega⟩]
      have hml2 := hml.fr (M2 := M2) (fun q q1 q2 q3 => hfr.at1 (by omega))
      refine hz_aloadn (pc := 151) 3 (hz_dec kX11_hearAsk 76 rfl) rfl ?_
      refine hz_get (pc := 152) (hz_dec kX11_hearAsk 77 rfl) fo_X11_62 ((hfr.at1 (by omega)).trans hH) (by omega) (by omega) rfl ?_
      refine hz_aloadn (pc := 155) 4 (hz_dec kX11_hearAsk 78 rfl) rfl ?_
      refine hz_get (pc := 156) (hz_dec kX11_hearAsk 79 rfl) fo_X11_514 ((hfr.at1 (by omega)).trans hN) (by omega) (by omega) rfl ?_
      refine hz_aloadn (pc := 159) 3 (hz_dec kX11_hearAsk 80 rfl) rfl ?_
      refine hz_get (pc := 160) (hz_dec kX11_hearAsk 81 rfl) fo_X11_62 ((hfr.at1 (by omega)).trans hH) (by omega) (by omega) rfl ?_
      refine hz_get (pc := 163) (hz_dec kX11_hearAsk 82 rfl) fo_X11_299 ((hfr.at1 (by omega)).trans hml.1) (by omega) (by omega) rfl ?_
      refine hz_iconst (pc := 166) (v := nI 3) (hz_dec kX11_hearAsk 83 rfl) (by decide) ?_
      refine hz_aloadn (pc := 167) 3 (hz_dec kX11_hearAsk 84 rfl) rfl ?_
      refine hz_get (pc := 168) (hz_dec kX11_hearAsk 85 rfl) fo_X11_81 ((hfr.at1 (by omega)).trans hH) (by omega) (by omega) rfl ?_
      refine hz_iconst (pc := 171) (v := nI 0) (hz_dec kX11_hearAsk 86 rfl) (by decide) ?_
      refine hz_bipush (pc := 172) (v := nI 80) (hz_dec kX11_hearAsk 87 rfl) (by decide) ?_
      refine hz_iload (pc := 174) 1 (hz_dec kX11_hearAsk 88 rfl) rfl ?_
      refine hz_iload (pc := 176) 2 (hz_dec kX11_hearAsk 89 rfl) rfl ?_
      refine hz_subN (pc := 178) (hz_dec kX11_hearAsk 90 rfl) (by omega) ?_
      refine hz_iconst (pc := 179) (v := nI 1) (hz_dec kX11_hearAsk 91 rfl) (by decide) ?_
      refine hz_addN (pc := 180) (hz_dec kX11_hearAsk 92 rfl) ?_
      refine hz_eqi (pc := 181) (show nI (eH (enB (ksB S)) x + adM (enB (ksB S)) (ksT S) x - (eH (enB (ksB S)) x + 1) + 1) = nI m by rw [show eH (enB (ksB S)) x + adM (enB (ksB S)) (ksT S) x - (eH (enB (ksB S)) x + 1) + 1 = m by omega]) ?_
      refine hz_mulN (pc := 181) (hz_dec kX11_hearAsk 93 rfl) ?_
      have hd9 : d ≤ 9 := by rcases hto with ⟨b, q1, q2, q3⟩ | ⟨q1, q2⟩; obtain ⟨fd, -, hdX⟩ := id hml2.2.2; rw [q3]; exact (hdX _ (by omega)).2; omega
      have hdl : hz_Mt κ xX5_delayOf 0 0 0 [.ref 45, .int (nI v), .int fr] z M2 (hz_ex (some (.int (nI d))) z M2) := by
        rcases hto with ⟨b, q1, q2, q3⟩ | ⟨q1, q2⟩
        · rw [q2, q3]; exact c_dly hz63 hml2.1 hnn hml2.2.2 hvn q1
        · rw [q2]; exact c_dly0 hz63 hml2.1 hnn hml2.2.2 hvn q1
      have qa := c_send (κ := κ) hz63 hml2.1 hnn hml2.2.1 hg57 (by decide) (by omega) (by decide) (by decide) hgA2 (by omega) (by omega) (kd := nI 3) hdl hd9
      rw [hlen] at qa
      refine hz_callV (pc := 182) (a := 45) (As := [.int (nI v), .int fr, .int (nI 3), .ref 57, .int (nI 0), .int (nI (80 * m))]) (st := []) (hz_dec kX11_hearAsk 94 rfl) co_X11_309 im_X5_send se_X5_send rfl ((hfr.at1 (by omega)).trans hml.1) (by omega) (by omega) (qa) rfl (by decide) ⟨Nat.le_refl _, Nat.le_refl _⟩ (Nat.le_of_ble_eq_true rfl) rfl (fun r9 z9 M3 hp9 => ?_)
      obtain ⟨rfl, rfl, hf3, hO3, hQ3⟩ := hp9
      have hml3 : mlR M3 nn now (sd1 now (nI v) fr (nI 3) d (hdB (ksB S) (enB (ksB S)) (ksT S) (eH (enB (ksB S)) x + 1) m) (ksQ S)) dl l.length fr kn := by unfold sd1; rw [hlen]; exact ⟨hO3, hQ3, by obtain ⟨fd, q1, q2⟩ := id hml2.2.2; exact ⟨fd, (hf3.at1 (q := 54) (by omega)).trans q1, q2⟩⟩
      refine hz_pop (pc := 185) (hz_dec kX11_hearAsk 95 rfl) rfl ?_
      exact hz_vret (pc := 186) (hz_dec kX11_hearAsk 96 rfl) rfl ⟨rfl, rfl, (hfr.mono (fun q hq => by simp only [outS, and_true] at hq ⊢; omega)).tr (hf3.mono (fun q hq => by simp only [outS, and_true] at hq ⊢; omega)), by rw [eQ]; exact hR.ml hnb (fun q q1 q2 => (hf3.at1 (by omega)).trans (hfr.at1 (by omega))) hml3, _, (hf3.at1 (by omega)).trans hg57⟩
  · skip
    have hch := chE_h i1.2.2.2.2.1 (tip := ksT S) (x := eH (enB (ksB S)) x + 1 + m) (by rw [enB_len]; exact i2) (by omega)
    have hA : isA f1 (offL ((ksB S).map Prod.fst) (chE (enB (ksB S)) (ksT S) (eH (enB (ksB S)) x + 1 + m))) (bBy (ksB S) (chE (enB (ksB S)) (ksT S) (eH (enB (ksB S)) x + 1 + m))) := by have q := hrX.2 (chE (enB (ksB S)) (ksT S) (eH (enB (ksB S)) x + 1 + m)) (by rw [List.length_map]; omega); rw [rowL_bl] at q; exact q
    have hom := offL_mono ((ksB S).map Prod.fst) (ksB S).length (chE (enB (ksB S)) (ksT S) (eH (enB (ksB S)) x + 1 + m) + 1) (by omega)
    have hos : offL ((ksB S).map Prod.fst) (chE (enB (ksB S)) (ksT S) (eH (enB (ksB S)) x + 1 + m) + 1) = offL ((ksB S).map Prod.fst) (chE (enB (ksB S)) (ksT S) (eH (enB (ksB S)) x + 1 + m)) + (bBy (ksB S) (chE (enB (ksB S)) (ksT S) (eH (enB (ksB S)) x + 1 + m))).length := by simp only [offL]; rw [rowL_bl]
    have hln := (i1.2.2.2.2.2.1 (chE (enB (ksB S)) (ksT S) (eH (enB (ksB S)) x + 1 + m)) (by omega)).len
    have hA8 := isA_sub (i := 0) (n := 80) hA (by omega)
    rw [Nat.add_zero] at hA8
    refine hz_aloadn (pc := 95) 5 (hz_dec kX11_hearAsk 49 rfl) rfl ?_
    refine hz_get (pc := 96) (hz_dec kX11_hearAsk 50 rfl) fo_X11_217 ((hfr.at1 (by omega)).trans hTO) (by omega) (by omega) rfl ?_
    refine hz_get (pc := 99) (hz_dec kX11_hearAsk 51 rfl) fo_X11_228 ((hfr.at1 (by omega)).trans hrO) (by omega) (by omega) rfl ?_
    refine hz_aloadn (pc := 102) 5 (hz_dec kX11_hearAsk 52 rfl) rfl ?_
    refine hz_get (pc := 103) (hz_dec kX11_hearAsk 53 rfl) fo_X11_407 ((hfr.at1 (by omega)).trans hTO) (by omega) (by omega) rfl ?_
    refine hz_iload (pc := 106) 0 (hz_dec kX11_hearAsk 54 rfl) rfl ?_
    refine hz_iald (pc := 108) (j := eH (enB (ksB S)) x + 1 + m) (hz_dec kX11_hearAsk 55 rfl) ((hfr.at1 (by omega)).trans hfc) (by omega) (by omega) rfl (by omega) (by omega) ?_
    refine hz_eqi (pc := 109) (hfcX (eH (enB (ksB S)) x + 1 + m) (by omega)) ?_
    refine hz_iald (pc := 109) (j := chE (enB (ksB S)) (ksT S) (eH (enB (ksB S)) x + 1 + m)) (hz_dec kX11_hearAsk 56 rfl) ((hfr.at1 (by omega)).trans hg1) (by omega) (by omega) rfl (by omega) (by omega) ?_
    refine hz_eqi (pc := 110) (hrX.1 (chE (enB (ksB S)) (ksT S) (eH (enB (ksB S)) x + 1 + m)) (by rw [List.length_map]; omega)) ?_
    refine hz_istore (pc := 110) (i := 9) (lo2 := [(9, .int (nI (offL ((ksB S).map Prod.fst) (chE (enB (ksB S)) (ksT S) (eH (enB (ksB S)) x + 1 + m))))), (8, .int (nI (eH (enB (ksB S)) x + 1 + m))), (7, .int (nI (eH (enB (ksB S)) x + adM (enB (ksB S)) (ksT S) x))), (6, .int (nI (eH (enB (ksB S)) x + 1))), (0, .ref 8), (1, .ref nb), (3, .ref (nb + 21))]) (hz_dec kX11_hearAsk 57 rfl) (by decide) rfl ?_
    refine hz_aloadn (pc := 112) 6 (hz_dec kX11_hearAsk 58 rfl) rfl ?_
    refine hz_get (pc := 113) (hz_dec kX11_hearAsk 59 rfl) fo_X11_217 ((hfr.at1 (by omega)).trans hTO) (by omega) (by omega) rfl ?_
    refine hz_get (pc := 116) (hz_dec kX11_hearAsk 60 rfl) fo_X11_225 ((hfr.at1 (by omega)).trans hrO) (by omega) (by omega) rfl ?_
    refine hz_iload (pc := 119) 0 (hz_dec kX11_hearAsk 61 rfl) rfl ?_
    refine hz_aloadn (pc := 121) 4 (hz_dec kX11_hearAsk 62 rfl) rfl ?_
    refine hz_get (pc := 122) (hz_dec kX11_hearAsk 63 rfl) fo_X11_81 ((hfr.at1 (by omega)).trans hH) (by omega) (by omega) rfl ?_
    refine hz_bipush (pc := 125) (v := nI 80) (hz_dec kX11_hearAsk 64 rfl) (by decide) ?_
    refine hz_iload (pc := 127) 1 (hz_dec kX11_hearAsk 65 rfl) rfl ?_
    refine hz_iload (pc := 129) 3 (hz_dec kX11_hearAsk 66 rfl) rfl ?_
    refine hz_subN (pc := 131) (hz_dec kX11_hearAsk 67 rfl) (by omega) ?_
    refine hz_eqi (pc := 132) (show nI (eH (enB (ksB S)) x + 1 + m - (eH (enB (ksB S)) x + 1)) = nI m by rw [Nat.add_sub_cancel_left]) ?_
    refine hz_mulN (pc := 132) (hz_dec kX11_hearAsk 68 rfl) ?_
    refine hz_bipush (pc := 133) (v := nI 80) (hz_dec kX11_hearAsk 69 rfl) (by decide) ?_
    refine hz_xS (pc := 135) (As := [.ref (nb + 21 + 1 + 1), .int (nI (offL ((ksB S).map Prod.fst) (chE (enB (ksB S)) (ksT S) (eH (enB (ksB S)) x + 1 + m)))), .ref 57, .int (nI (80 * m)), .int (nI 80)]) (st := []) (hz_dec kX11_hearAsk 70 rfl) co_X11_231 sc_X0_copy (c_copy ((hfr.at1 (by omega)).trans hf1) (by omega) (by omega) (by decide) hg57 (by decide) (by omega) (by decide) (by omega) (by omega)) rfl (by decide) ⟨Nat.le_refl _, Nat.le_refl _⟩ (Nat.le_of_ble_eq_true rfl) rfl ?_
    refine hz_incN (pc := 138) (i := 8) (lo2 := [(8, .int (nI (eH (enB (ksB S)) x + 1 + m + 1))), (9, .int (nI (offL ((ksB S).map Prod.fst) (chE (enB (ksB S)) (ksT S) (eH (enB (ksB S)) x + 1 + m))))), (7, .int (nI (eH (enB (ksB S)) x + adM (enB (ksB S)) (ksT S) x))), (6, .int (nI (eH (enB (ksB S)) x + 1))), (0, .ref 8), (1, .ref nb), (3, .ref (nb + 21))]) 1 (hz_dec kX11_hearAsk 71 rfl) rfl (by decide) rfl ?_
    refine hz_goto (pc := 141) (tgt := 88) (hz_dec kX11_hearAsk 72 rfl) (by decide) ?_
    refine hz_pick (pc := 88) [0, 2, 3, 4, 5, 6] rfl ?_
    refine ih (adM (enB (ksB S)) (ksT S) x - (m + 1)) (by omega) (m + 1) _ _ rfl (by omega) (hfr.upr (by simp only [outS, and_true]; omega)) (va_up_self _ _ _) ?_
    have q := va_cpy_app (f := f1) (g := g) hgA2 hA8
    rw [hlen, subL_len] at q
    exact q
set_option maxHeartbeats 4000000 in
set_option maxRecDepth 100000 in
theorem c_hAsk_l {κ : hz_C} {z nb nn v tl : Nat} {tr now fr kn rc rf : Int32} {dl : Nat → Nat} (hnb : 63 ≤ nb) (hnbz : nb + 34 ≤ z) (hnn : nn ≤ 6) (hvn : v < nn) {d : Nat} (hto : (∃ b, b < nn ∧ fr = nI b ∧ d = dl (6 * v + b)) ∨ (fr < 0 ∧ d = 0)) {M : hz_M} {S : ks_S} {l : by_L} (hR : kcR M z nb nn v tl tr now fr kn rc rf (nI 1) dl l.length S) (hI : ksI S) (hl4 : l.length ≤ 4000) {gl : Nat → Int32} (hgl : M 53 = .inl (1, 4000, .inl gl)) (hgA : isA gl 0 l) {g57 : Nat → Int32} (h57 : M 57 = .inl (1, 1280, .inl g57)) {n : Nat} (hn : n ≤ 16) (hnl : 32 * n = l.length) : ∀ k i, k = n - i → i ≤ n → (∀ j, j < i → adB (ksB S) (enB (ksB S)) (ksT S) l j = false) → hz_W κ xX11_hearAsk 4 0 0 (fun r z2 M2 => none = r ∧ z = z2 ∧ frS [(45, 53), (57, 58)] M M2 ∧ kcR M2 z nb nn v tl tr now fr kn rc rf (nI 1) dl l.length (ksq S (adQ now v fr d S l n)) ∧ ∃ g : Nat → Int32, M2 57 = .inl (1, 1280, .inl g)) 0 0 8 [(4, .int (nI i)), (0, .ref 8), (1, .ref nb), (2, .int (nI n)), (3, .ref (nb + 21))] [] z M := by
  intro k
  induction k using Nat.strongRecOn with
  | ind k ih =>
  intro i hk hi hno
  obtain ⟨hH, hNs, hN, ⟨gD, hD, hDX⟩, hT, hc, hp, hL, hJ, hml, ⟨g53, h53⟩, ⟨L58, h58⟩, g61, h61⟩ := id hR
  obtain ⟨i1, i2, i3, i4, i5⟩ := id hI
  have hz63 : 63 ≤ z := by omega
  have htop := i1.top
  have hTO := hT.1
  obtain ⟨-, ⟨hrO, hrle, hroff, f1, g1, hf1, hg1, hrX⟩, -, ⟨fb, fht, ftm, fbi, hfb, hfht, hftm, hfbi, hEX⟩, -, -, ⟨fc, hfc, hfcX⟩, -⟩ := id hT
  rw [List.length_map] at hrO hrle hroff
  have hte := i1.2.2.2.2.1.ht (k := ksT S) (by rw [enB_len]; exact i2)
  refine hz_iload (pc := 8) 0 (hz_dec kX11_hearAsk 5 rfl) rfl ?_
  refine hz_iloadn (pc := 10) 3 (hz_dec kX11_hearAsk 6 rfl) rfl ?_
  refine hz_n_ge (pc := 11) (tgt := 193) (hz_dec kX11_hearAsk 7 rfl) (by decide) (by omega) (by omega) (fun h1 => ?_) (fun h1 => ?_)
  · skip
    have e : i = n := by omega
    have eQ : adQ now v fr d S l n = ksQ S := by unfold adQ; rw [fsI_no (p := adB (ksB S) (enB (ksB S)) (ksT S) l) n (fun j hj => hno j (by omega)), if_neg (fun q => absurd q.1 (by omega))]
    exact hz_vret (pc := 193) (hz_dec kX11_hearAsk 99 rfl) rfl ⟨rfl, rfl, frS.rf, by rw [eQ]; exact hR, _, h57⟩
  · skip
    have hAi : isA gl (32 * i) (hsI l i) := by have q := isA_sub (i := 32 * i) (n := 32) hgA (by omega); rw [Nat.zero_add] at q; exact q
    refine hz_aloadn (pc := 14) 4 (hz_dec kX11_hearAsk 8 rfl) rfl ?_
    refine hz_aloadn (pc := 15) 1 (hz_dec kX11_hearAsk 9 rfl) rfl ?_
    refine hz_get (pc := 16) (hz_dec kX11_hearAsk 10 rfl) fo_X11_62 hH (by omega) (by omega) rfl ?_
    refine hz_get (pc := 19) (hz_dec kX11_hearAsk 11 rfl) fo_X11_450 hml.1 (by omega) (by omega) rfl ?_
    refine hz_bipush (pc := 22) (v := nI 32) (hz_dec kX11_hearAsk 12 rfl) (by decide) ?_
    refine hz_iload (pc := 24) 0 (hz_dec kX11_hearAsk 13 rfl) rfl ?_
    refine hz_mulN (pc := 26) (hz_dec kX11_hearAsk 14 rfl) ?_
    refine hz_xV (pc := 27) (a := nb + 21) (As := [.ref 53, .int (nI (32 * i))]) (st := []) (hz_dec kX11_hearAsk 15 rfl) co_X11_528 im_X10_indexOf se_X10_indexOf rfl hTO (by omega) (by omega) (c_trIx hT (by omega) (by omega) hgl (by decide) (by omega) (by decide) hAi (subL_len _ _ _) (by omega)) rfl (by decide) ⟨Nat.le_refl _, Nat.le_refl _⟩ (Nat.le_of_ble_eq_true rfl) rfl ?_
    by_cases ck : blF (ksB S) (hsI l i) < (ksB S).length
    · skip
      refine hz_eqi (pc := 30) (show _ = nI (blF (ksB S) (hsI l i)) from if_pos ck) ?_
      refine hz_istore (pc := 30) (i := 5) (lo2 := [(5, .int (nI (blF (ksB S) (hsI l i)))), (4, .int (nI i)), (0, .ref 8), (1, .ref nb), (2, .int (nI n)), (3, .ref (nb + 21))]) (hz_dec kX11_hearAsk 16 rfl) (by decide) rfl ?_
      refine hz_iload (pc := 32) 0 (hz_dec kX11_hearAsk 17 rfl) rfl ?_
      refine hz_z_lt (pc := 34) (tgt := 187) (hz_dec kX11_hearAsk 18 rfl) (by decide) (by omega) ?_
      refine hz_aloadn (pc := 37) 5 (hz_dec kX11_hearAsk 19 rfl) rfl ?_
      refine hz_iload (pc := 38) 0 (hz_dec kX11_hearAsk 20 rfl) rfl ?_
      refine hz_xV (pc := 40) (a := nb + 21) (As := [.int (nI (blF (ksB S) (hsI l i)))]) (st := []) (hz_dec kX11_hearAsk 21 rfl) co_X11_395 im_X10_isOnChain se_X10_isOnChain rfl hTO (by omega) (by omega) (c_trOn hT (by omega) (by omega) ck) rfl (by decide) ⟨Nat.le_refl _, Nat.le_refl _⟩ (Nat.le_of_ble_eq_true rfl) rfl ?_
      refine hz_if_ne (pc := 43) (tgt := 49) (hz_dec kX11_hearAsk 22 rfl) (by decide) (fun h3 => ?_) (fun h3 => ?_)
      · skip
        have hon := hz_b1 h3
        have hfi : fsI (adB (ksB S) (enB (ksB S)) (ksT S) l) n = i := fsI_at (p := adB (ksB S) (enB (ksB S)) (ksT S) l) (decide_eq_true ⟨ck, hon⟩) hno n h1
        have hxa : blF (ksB S) (hsI l i) = adK (ksB S) (enB (ksB S)) (ksT S) l n := by unfold adK; rw [hfi]
        have hxt : eH (enB (ksB S)) (blF (ksB S) (hsI l i)) ≤ eH (enB (ksB S)) (ksT S) := (of_decide_eq_true hon).1
        generalize hx : blF (ksB S) (hsI l i) = x at *
        refine hz_aloadn (pc := 49) 5 (hz_dec kX11_hearAsk 24 rfl) rfl ?_
        refine hz_get (pc := 50) (hz_dec kX11_hearAsk 25 rfl) fo_X11_241 hTO (by omega) (by omega) rfl ?_
        refine hz_iload (pc := 53) 0 (hz_dec kX11_hearAsk 26 rfl) rfl ?_
        refine hz_iald (pc := 55) (j := x) (hz_dec kX11_hearAsk 27 rfl) hfht (by omega) (by omega) rfl (by omega) (by omega) ?_
        refine hz_eqi (pc := 56) (hEX (x) (by rw [enB_len]; omega)).2.1 ?_
        refine hz_iconst (pc := 56) (v := nI 1) (hz_dec kX11_hearAsk 28 rfl) (by decide) ?_
        refine hz_addN (pc := 57) (hz_dec kX11_hearAsk 29 rfl) ?_
        refine hz_istore (pc := 58) (i := 6) (lo2 := [(6, .int (nI ((eH (enB (ksB S)) (x)) + 1))), (5, .int (nI x)), (4, .int (nI i)), (0, .ref 8), (1, .ref nb), (2, .int (nI n)), (3, .ref (nb + 21))]) (hz_dec kX11_hearAsk 30 rfl) (by decide) rfl ?_
        refine hz_aloadn (pc := 60) 6 (hz_dec kX11_hearAsk 31 rfl) rfl ?_
        refine hz_get (pc := 61) (hz_dec kX11_hearAsk 32 rfl) fo_X11_241 hTO (by omega) (by omega) rfl ?_
        refine hz_aloadn (pc := 64) 6 (hz_dec kX11_hearAsk 33 rfl) rfl ?_
        refine hz_get (pc := 65) (hz_dec kX11_hearAsk 34 rfl) fo_X11_235 hTO (by omega) (by omega) rfl ?_
        refine hz_iald (pc := 68) (j := ksT S) (hz_dec kX11_hearAsk 35 rfl) hfht (by omega) (by omega) rfl (by omega) (by omega) ?_
        refine hz_eqi (pc := 69) (hEX (ksT S) (by rw [enB_len]; omega)).2.1 ?_
        refine hz_aloadn (pc := 69) 6 (hz_dec kX11_hearAsk 36 rfl) rfl ?_
        refine hz_get (pc := 70) (hz_dec kX11_hearAsk 37 rfl) fo_X11_241 hTO (by omega) (by omega) rfl ?_
        refine hz_iload (pc := 73) 1 (hz_dec kX11_hearAsk 38 rfl) rfl ?_
        refine hz_iald (pc := 75) (j := x) (hz_dec kX11_hearAsk 39 rfl) hfht (by omega) (by omega) rfl (by omega) (by omega) ?_
        refine hz_eqi (pc := 76) (hEX (x) (by rw [enB_len]; omega)).2.1 ?_
        refine hz_bipush (pc := 76) (v := nI 16) (hz_dec kX11_hearAsk 40 rfl) (by decide) ?_
        refine hz_addN (pc := 78) (hz_dec kX11_hearAsk 41 rfl) ?_
        refine hz_xS (pc := 79) (As := [.int (nI (eH (enB (ksB S)) (ksT S))), .int (nI ((eH (enB (ksB S)) (x)) + 16))]) (st := []) (hz_dec kX11_hearAsk 42 rfl) co_X11_9 sc_J9_min_7cf53 (c_min (by omega) (by omega)) rfl (by decide) ⟨Nat.le_refl _, Nat.le_refl _⟩ (Nat.le_of_ble_eq_true rfl) rfl ?_
        refine hz_eqi (pc := 82) (show _ = nI (eH (enB (ksB S)) x + adM (enB (ksB S)) (ksT S) x) by rw [show min (eH (enB (ksB S)) (ksT S)) (eH (enB (ksB S)) x + 16) = eH (enB (ksB S)) x + adM (enB (ksB S)) (ksT S) x by unfold adM; omega]) ?_
        refine hz_istore (pc := 82) (i := 7) (lo2 := [(7, .int (nI (eH (enB (ksB S)) x + adM (enB (ksB S)) (ksT S) x))), (6, .int (nI ((eH (enB (ksB S)) (x)) + 1))), (5, .int (nI x)), (4, .int (nI i)), (0, .ref 8), (1, .ref nb), (2, .int (nI n)), (3, .ref (nb + 21))]) (hz_dec kX11_hearAsk 43 rfl) (by decide) rfl ?_
        refine hz_iload (pc := 84) 1 (hz_dec kX11_hearAsk 44 rfl) rfl ?_
        refine hz_istore (pc := 86) (i := 8) (lo2 := [(8, .int (nI ((eH (enB (ksB S)) (x)) + 1))), (7, .int (nI (eH (enB (ksB S)) x + adM (enB (ksB S)) (ksT S) x))), (6, .int (nI ((eH (enB (ksB S)) (x)) + 1))), (5, .int (nI x)), (4, .int (nI i)), (0, .ref 8), (1, .ref nb), (2, .int (nI n)), (3, .ref (nb + 21))]) (hz_dec kX11_hearAsk 45 rfl) (by decide) rfl ?_
        refine hz_pick (pc := 88) [0, 1, 2, 5, 6, 8] rfl ?_
        exact c_hAsk_i hnb hnbz hnn hvn hto hR hI hl4 hgl hgA h57 hn hnl ck hxa (by omega) hxt (adM (enB (ksB S)) (ksT S) x) 0 M g57 rfl (Nat.zero_le _) frS.rf h57 (isA_nil _ _)
      · skip
        refine hz_goto (pc := 46) (tgt := 187) (hz_dec kX11_hearAsk 23 rfl) (by decide) ?_
        refine hz_incN (pc := 187) (i := 4) (lo2 := [(4, .int (nI (i + 1))), (5, .int (nI (blF (ksB S) (hsI l i)))), (0, .ref 8), (1, .ref nb), (2, .int (nI n)), (3, .ref (nb + 21))]) 1 (hz_dec kX11_hearAsk 97 rfl) rfl (by decide) rfl ?_
        refine hz_goto (pc := 190) (tgt := 8) (hz_dec kX11_hearAsk 98 rfl) (by decide) ?_
        refine hz_pick (pc := 8) [0, 2, 3, 4, 5] rfl ?_
        refine ih (n - (i + 1)) (by omega) (i + 1) rfl (by omega) (fun j hj => ?_)
        rcases (show j = i ∨ j < i by omega) with e | c
        · rw [e]; exact decide_eq_false (fun q => by rw [hz_b0 h3] at q; cases q.2)
        · exact hno j c
    · skip
      refine hz_eqi (pc := 30) (show _ = (-1 : Int32) from if_neg ck) ?_
      refine hz_istore (pc := 30) (i := 5) (lo2 := [(5, .int (-1)), (4, .int (nI i)), (0, .ref 8), (1, .ref nb), (2, .int (nI n)), (3, .ref (nb + 21))]) (hz_dec kX11_hearAsk 16 rfl) (by decide) rfl ?_
      refine hz_iload (pc := 32) 0 (hz_dec kX11_hearAsk 17 rfl) rfl ?_
      refine hz_if_lt (pc := 34) (tgt := 187) (hz_dec kX11_hearAsk 18 rfl) (by decide) (fun h2 => ?_) (fun h2 => ?_)
      · skip
        refine hz_incN (pc := 187) (i := 4) (lo2 := [(4, .int (nI (i + 1))), (5, .int (-1)), (0, .ref 8), (1, .ref nb), (2, .int (nI n)), (3, .ref (nb + 21))]) 1 (hz_dec kX11_hearAsk 97 rfl) rfl (by decide) rfl ?_
        refine hz_goto (pc := 190) (tgt := 8) (hz_dec kX11_hearAsk 98 rfl) (by decide) ?_
        refine hz_pick (pc := 8) [0, 2, 3, 4, 5] rfl ?_
        refine ih (n - (i + 1)) (by omega) (i + 1) rfl (by omega) (fun j hj => ?_)
        rcases (show j = i ∨ j < i by omega) with e | c
        · rw [e]; exact decide_eq_false (fun q => ck q.1)
        · exact hno j c
      · skip
        exact absurd (by decide) h2
set_option maxHeartbeats 4000000 in
set_option maxRecDepth 100000 in
theorem c_hAsk {κ : hz_C} {z nb nn v tl : Nat} {tr now fr kn rc rf : Int32} {dl : Nat → Nat} (hnb : 63 ≤ nb) (hnbz : nb + 34 ≤ z) (hnn : nn ≤ 6) (hvn : v < nn) {d : Nat} (hto : (∃ b, b < nn ∧ fr = nI b ∧ d = dl (6 * v + b)) ∨ (fr < 0 ∧ d = 0)) {M : hz_M} {S : ks_S} {l : by_L} (hR : kcR M z nb nn v tl tr now fr kn rc rf (nI 1) dl l.length S) (hI : ksI S) (hl4 : l.length ≤ 4000) {gl : Nat → Int32} (hgl : M 53 = .inl (1, 4000, .inl gl)) (hgA : isA gl 0 l) {g57 : Nat → Int32} (h57 : M 57 = .inl (1, 1280, .inl g57)) {n : Nat} (hn : n ≤ 16) (hnl : 32 * n = l.length) : hz_Mt κ xX11_hearAsk 4 0 0 [.ref 8, .ref nb, .int (nI n)] z M (fun r z2 M2 => none = r ∧ z = z2 ∧ frS [(45, 53), (57, 58)] M M2 ∧ kcR M2 z nb nn v tl tr now fr kn rc rf (nI 1) dl l.length (ksq S (adQ now v fr d S l n)) ∧ ∃ g : Nat → Int32, M2 57 = .inl (1, 1280, .inl g)) := by
  refine hz_ent (lo := [(0, .ref 8), (1, .ref nb), (2, .int (nI n))]) (by decide) (Nat.le_of_ble_eq_true rfl) rfl ?_
  obtain ⟨hH, hNs, hN, ⟨gD, hD, hDX⟩, hT, hc, hp, hL, hJ, hml, ⟨g53, h53⟩, ⟨L58, h58⟩, g61, h61⟩ := id hR
  obtain ⟨i1, i2, i3, i4, i5⟩ := id hI
  have hz63 : 63 ≤ z := by omega
  have htop := i1.top
  have hTO := hT.1
  obtain ⟨-, ⟨hrO, hrle, hroff, f1, g1, hf1, hg1, hrX⟩, -, ⟨fb, fht, ftm, fbi, hfb, hfht, hftm, hfbi, hEX⟩, -, -, ⟨fc, hfc, hfcX⟩, -⟩ := id hT
  rw [List.length_map] at hrO hrle hroff
  have hte := i1.2.2.2.2.1.ht (k := ksT S) (by rw [enB_len]; exact i2)
  refine hz_aloadn (pc := 0) 1 (hz_dec kX11_hearAsk 0 rfl) rfl ?_
  refine hz_get (pc := 1) (hz_dec kX11_hearAsk 1 rfl) fo_X11_104 hN (by omega) (by omega) rfl ?_
  refine hz_astoren (pc := 4) (i := 3) (lo2 := [(3, .ref (nb + 21)), (0, .ref 8), (1, .ref nb), (2, .int (nI n))]) (hz_dec kX11_hearAsk 2 rfl) rfl (by decide) rfl ?_
  refine hz_iconst (pc := 5) (v := nI 0) (hz_dec kX11_hearAsk 3 rfl) (by decide) ?_
  refine hz_istore (pc := 6) (i := 4) (lo2 := [(4, .int (nI 0)), (3, .ref (nb + 21)), (0, .ref 8), (1, .ref nb), (2, .int (nI n))]) (hz_dec kX11_hearAsk 4 rfl) (by decide) rfl ?_
  refine hz_pick (pc := 8) [0, 2, 3, 4, 1] rfl ?_
  exact c_hAsk_l hnb hnbz hnn hvn hto hR hI hl4 hgl hgA h57 hn hnl n 0 rfl (Nat.zero_le _) (fun j hj => absurd hj (by omega))
set_option maxHeartbeats 4000000 in
set_option maxRecDepth 100000 in
theorem c_rAsk_c {κ : hz_C} {z B v x m : Nat} {fr : Int32} {S : ks_S} (h8 : 8 ≤ B) (hz : B + 88 ≤ z) (hm : m < 16) {b : by_L} (hb : 80 ≤ b.length) (hb4 : b.length ≤ 4000) {M0 : hz_M} (h350 : isA (fA M0 B 35) 0 b) {a : by_L} (ha : a.length = 80 * m) {P : hz_P} (K : ∀ M, mfr B [] [79] M0 M → mdE M B → isA (fA M B 79) 0 (a ++ hdS b) → hz_W κ xX12_receiveAsk 4 0 0 P 0 0 143 [(7, .int (nI (eH (enB (ksB S)) x + 1 + m))), (6, .int (nI m)), (0, .ref B), (1, .int (nI v)), (2, .int fr), (3, .int (nI (ksT S)))] [] z M) : ∀ k j M, k = 80 - j → j ≤ 80 → mfr B [] [79] M0 M → mdE M B → isA (fA M B 79) 0 a → (∀ q, q < j → fA M B 79 (80 * m + q) = lf b q) → hz_W κ xX12_receiveAsk 4 0 0 P 0 0 110 [(8, .int (nI j)), (7, .int (nI (eH (enB (ksB S)) x + 1 + m))), (6, .int (nI m)), (0, .ref B), (1, .int (nI v)), (2, .int fr), (3, .int (nI (ksT S)))] [] z M := by
  intro k
  induction k using Nat.strongRecOn with
  | ind k ih =>
  intro j M hk hj hfr hE hA h79
  obtain ⟨fs, hO, hF⟩ := id hfr.2.1
  have h35 : isA (fA M B 35) 0 b := by rw [fA_m hfr (by decide) rfl]; exact h350
  refine hz_bytes hE.a35 (by omega) (by omega) (fun hby => ?_)
  refine hz_iload (pc := 110) 0 (hz_dec kX12_receiveAsk 62 rfl) rfl ?_
  refine hz_bipush (pc := 112) (v := nI 80) (hz_dec kX12_receiveAsk 63 rfl) (by decide) ?_
  refine hz_n_ge (pc := 114) (tgt := 143) (hz_dec kX12_receiveAsk 64 rfl) (by decide) (by omega) (by omega) (fun h1 => ?_) (fun h1 => ?_)
  · skip
    have e : j = 80 := by omega
    refine hz_pick (pc := 143) [1, 2, 3, 4, 5, 6] rfl ?_
    refine K M hfr hE (isA_app hA (fun q hq => ?_))
    rw [hdS_len] at hq
    unfold hdS
    rw [lf_subL hq, Nat.zero_add, Nat.zero_add, ha]
    exact h79 q (by omega)
  · skip
    refine hz_aloadn (pc := 117) 3 (hz_dec kX12_receiveAsk 65 rfl) rfl ?_
    refine hz_get (pc := 118) (v := .ref (B + 79)) (hz_dec kX12_receiveAsk 66 rfl) fo_X12_258 hO h8 (by omega) (hF.2 93 (by decide) (by decide)) ?_
    refine hz_bipush (pc := 121) (v := nI 80) (hz_dec kX12_receiveAsk 67 rfl) (by decide) ?_
    refine hz_iload (pc := 123) 2 (hz_dec kX12_receiveAsk 68 rfl) rfl ?_
    refine hz_mulN (pc := 125) (hz_dec kX12_receiveAsk 69 rfl) ?_
    refine hz_iload (pc := 126) 0 (hz_dec kX12_receiveAsk 70 rfl) rfl ?_
    refine hz_addN (pc := 128) (hz_dec kX12_receiveAsk 71 rfl) ?_
    refine hz_aloadn (pc := 129) 3 (hz_dec kX12_receiveAsk 72 rfl) rfl ?_
    refine hz_get (pc := 130) (v := .ref (B + 35)) (hz_dec kX12_receiveAsk 73 rfl) fo_X12_116 hO h8 (by omega) (hF.2 38 (by decide) (by decide)) ?_
    refine hz_iload (pc := 133) 0 (hz_dec kX12_receiveAsk 74 rfl) rfl ?_
    refine hz_bald (pc := 135) (j := j) (hz_dec kX12_receiveAsk 75 rfl) hE.a35 (by omega) (by omega) rfl (by omega) (by decide) ?_
    refine hz_bast (pc := 136) (j := (80 * m) + j) (hz_dec kX12_receiveAsk 76 rfl) hE.a79 (by omega) (by omega) rfl (by omega) (by decide) ?_
    refine hz_incN (pc := 137) (i := 8) (lo2 := [(8, .int (nI (j + 1))), (7, .int (nI (eH (enB (ksB S)) x + 1 + m))), (6, .int (nI m)), (0, .ref B), (1, .int (nI v)), (2, .int fr), (3, .int (nI (ksT S)))]) 0 (hz_dec kX12_receiveAsk 77 rfl) rfl (by decide) rfl ?_
    refine hz_goto (pc := 140) (tgt := 110) (hz_dec kX12_receiveAsk 78 rfl) (by decide) ?_
    refine hz_pick (pc := 110) [0, 1, 2, 3, 4, 5, 6] rfl ?_
    refine ih (80 - (j + 1)) (by omega) (j + 1) _ rfl (by omega) (hfr.upA (o := 79) rfl (by decide)) (hE.upA (by decide)) ?_ ?_
    · rw [fA_of (va_up_self _ _ _)]
      intro q hq
      rw [upd_o (by omega)]
      exact hA q hq
    · rw [fA_of (va_up_self _ _ _)]
      intro q hq
      rcases (show q = j ∨ q < j by omega) with e | c
      · rw [e, upd_s, hby _ (by omega)]; have r := h35 j (by omega); rw [Nat.zero_add] at r; exact r
      · rw [upd_o (by omega)]; exact h79 q c
set_option maxHeartbeats 4000000 in
set_option maxRecDepth 100000 in
theorem c_rAsk_i {κ : hz_C} {z B nn v : Nat} {now fr : Int32} {dl : Nat → Nat} (hnn : nn ≤ 6) (hvn : v < nn) {d : Nat} (hto : (∃ b, b < 6 ∧ fr = nI b ∧ d = dl (6 * v + b)) ∨ (fr < 0 ∧ d = 0)) {M : hz_M} {S : ks_S} {l : by_L} (hk0 : md_k B M z) (hE : mdE M B) (hmg : mgR M B nn now dl (ksQ S)) (hmn : mnB M B v (ksB S) (enB (ksB S)) (ksT S)) (hI : ksI S) (hl4 : l.length ≤ 4000) (h78 : isA (fA M B 78) 0 l) (h92 : fdB M B 92 = some (.int (nI l.length))) {n : Nat} (hn : n ≤ 16) (hnl : 32 * n = l.length) {x : Nat} (hx : x < (ksB S).length) (hxa : x = adK (ksB S) (enB (ksB S)) (ksT S) l n) (hfn : fsI (adB (ksB S) (enB (ksB S)) (ksT S) l) n < n) (hxt : eH (enB (ksB S)) x ≤ eH (enB (ksB S)) (ksT S)) : ∀ k m M2, k = adM (enB (ksB S)) (ksT S) x - m → m ≤ adM (enB (ksB S)) (ksT S) x → mfr B [39, 86, 87, 88] [35, 70, 71, 72, 73, 74, 75, 76, 79] M M2 → mdE M2 B → mgR M2 B nn now dl (ksQ S) → isA (fA M2 B 79) 0 (hdB (ksB S) (enB (ksB S)) (ksT S) (eH (enB (ksB S)) x + 1) m) → hz_W κ xX12_receiveAsk 4 0 0 (fun r z2 M2 => none = r ∧ z = z2 ∧ mfr B [39, 86, 87, 88] [35, 70, 71, 72, 73, 74, 75, 76, 79] M M2 ∧ mdE M2 B ∧ mgR M2 B nn now dl (adQ now v fr d S l n)) 0 0 72 [(7, .int (nI (eH (enB (ksB S)) x + 1 + m))), (6, .int (nI m)), (0, .ref B), (1, .int (nI v)), (2, .int fr), (3, .int (nI (ksT S)))] [] z M2 := by
  intro k
  induction k using Nat.strongRecOn with
  | ind k ih =>
  intro m M2 hk hm hfr hE2 hmg2 h79
  obtain ⟨⟨fs0, hO0, hF0⟩, -, -, h8, hz⟩ := id hk0
  obtain ⟨i1, i2, i3, i4, i5⟩ := id hI
  have htop := i1.top
  have hv6 : v < 6 := by omega
  have hte := i1.2.2.2.2.1.ht (k := ksT S) (by rw [enB_len]; exact i2)
  obtain ⟨fs, hO, hF⟩ := id hfr.2.1
  have hmn2 := hmn.mf hfr rfl
  have hM16 : adM (enB (ksB S)) (ksT S) x ≤ 16 ∧ eH (enB (ksB S)) x + adM (enB (ksB S)) (ksT S) x ≤ eH (enB (ksB S)) (ksT S) ∧ (adM (enB (ksB S)) (ksT S) x < 16 → eH (enB (ksB S)) x + adM (enB (ksB S)) (ksT S) x = eH (enB (ksB S)) (ksT S)) := by unfold adM; omega
  have hlen := hdB_len (ksB S) (enB (ksB S)) (ksT S) (eH (enB (ksB S)) x + 1) m
  have hRt := (hmn2.1 (ksT S) (by rw [enB_len]; exact i2)).1 i2
  refine hz_iload (pc := 72) 1 (hz_dec kX12_receiveAsk 41 rfl) rfl ?_
  refine hz_bipush (pc := 74) (v := nI 16) (hz_dec kX12_receiveAsk 42 rfl) (by decide) ?_
  refine hz_n_ge (pc := 76) (tgt := 152) (hz_dec kX12_receiveAsk 43 rfl) (by decide) (by omega) (by omega) (fun h1 => ?_) (fun h1 => ?_)
  · skip
    have e : m = adM (enB (ksB S)) (ksT S) x := by omega
    refine hz_iload (pc := 152) 1 (hz_dec kX12_receiveAsk 82 rfl) rfl ?_
    refine hz_z_le (pc := 154) (tgt := 176) (hz_dec kX12_receiveAsk 83 rfl) (by decide) (by omega) (fun h5 => ?_) (fun h5 => ?_)
    · skip
      have eQ : adQ now v fr d S l n = ksQ S := by unfold adQ; rw [← hxa, if_neg (fun q => q.2 (by omega))]
      exact hz_vret (pc := 176) (hz_dec kX12_receiveAsk 96 rfl) rfl ⟨rfl, rfl, hfr, hE2, by rw [eQ]; exact hmg2⟩
    · skip
      have eQ : adQ now v fr d S l n = sd1 now (nI v) fr (nI 3) d (hdB (ksB S) (enB (ksB S)) (ksT S) (eH (enB (ksB S)) x + 1) m) (ksQ S) := by unfold adQ; rw [← hxa, ← e, if_pos ⟨hfn, by omega⟩]
      refine hz_aloadn (pc := 157) 2 (hz_dec kX12_receiveAsk 84 rfl) rfl ?_
      refine hz_iloadn (pc := 158) 3 (hz_dec kX12_receiveAsk 85 rfl) rfl ?_
      refine hz_iloadn (pc := 159) 4 (hz_dec kX12_receiveAsk 86 rfl) rfl ?_
      refine hz_iconst (pc := 160) (v := nI 3) (hz_dec kX12_receiveAsk 87 rfl) (by decide) ?_
      refine hz_aloadn (pc := 161) 2 (hz_dec kX12_receiveAsk 88 rfl) rfl ?_
      refine hz_get (pc := 162) (v := .ref (B + 79)) (hz_dec kX12_receiveAsk 89 rfl) fo_X12_258 hO h8 (by omega) (hF.2 93 (by decide) (by decide)) ?_
      refine hz_iconst (pc := 165) (v := nI 0) (hz_dec kX12_receiveAsk 90 rfl) (by decide) ?_
      refine hz_bipush (pc := 166) (v := nI 80) (hz_dec kX12_receiveAsk 91 rfl) (by decide) ?_
      refine hz_iload (pc := 168) 1 (hz_dec kX12_receiveAsk 92 rfl) rfl ?_
      refine hz_mulN (pc := 170) (hz_dec kX12_receiveAsk 93 rfl) ?_
      have qa := c_msend (κ := κ) hfr.2.1 hE2 h8 hz hmg2.2.2 hmg2.2.1 hE2.a79 (by omega) (by omega) (ne_off (by decide)) (by decide) h79 (by omega) (by omega) (kd := nI 3) hv6 hto
      rw [hlen] at qa
      refine hz_callV (pc := 171) (a := B) (As := [.int (nI v), .int fr, .int (nI 3), .ref (B + 79), .int (nI 0), .int (nI (80 * m))]) (st := []) (hz_dec kX12_receiveAsk 94 rfl) co_X12_622 im_X12_send se_X12_send rfl hO h8 (by omega) (qa) rfl (by decide) ⟨Nat.le_refl _, Nat.le_refl _⟩ (Nat.le_of_ble_eq_true rfl) rfl (fun r9 z9 M3 hp9 => ?_)
      obtain ⟨rfl, rfl, hf3, hE3, hQ3⟩ := hp9
      refine hz_istore (pc := 174) (i := 8) (lo2 := [(8, .int (hz_b (sdR (ksQ S).1 d (80 * m)))), (7, .int (nI (eH (enB (ksB S)) x + 1 + m))), (6, .int (nI m)), (0, .ref B), (1, .int (nI v)), (2, .int fr), (3, .int (nI (ksT S)))]) (hz_dec kX12_receiveAsk 95 rfl) (by decide) rfl ?_
      exact hz_vret (pc := 176) (hz_dec kX12_receiveAsk 96 rfl) rfl ⟨rfl, rfl, hfr.tr (hf3.mono rfl rfl), hE3, by rw [eQ]; unfold sd1; rw [hlen]; exact ⟨(hf3.2.2 1 rfl).trans hmg2.1, by unfold mdD; rw [fA_m hf3 (by decide) rfl]; exact hmg2.2.1, hQ3⟩⟩
  · skip
    refine hz_iload (pc := 79) 0 (hz_dec kX12_receiveAsk 44 rfl) rfl ?_
    refine hz_aloadn (pc := 81) 2 (hz_dec kX12_receiveAsk 45 rfl) rfl ?_
    refine hz_get (pc := 82) (v := .ref (B + 27)) (hz_dec kX12_receiveAsk 46 rfl) fo_X12_92 hO h8 (by omega) (hF.2 29 (by decide) (by decide)) ?_
    refine hz_iloadn (pc := 85) 3 (hz_dec kX12_receiveAsk 47 rfl) rfl ?_
    refine hz_iloadn (pc := 86) 5 (hz_dec kX12_receiveAsk 48 rfl) rfl ?_
    refine hz_xS (pc := 87) (As := [.int (nI v), .int (nI (ksT S))]) (st := [.ref (B + 27), .int (nI (eH (enB (ksB S)) x + 1 + m))]) (hz_dec kX12_receiveAsk 49 rfl) co_X12_419 sc_X12_at0 (c_at0) rfl (by decide) ⟨Nat.le_refl _, Nat.le_refl _⟩ (Nat.le_of_ble_eq_true rfl) rfl ?_
    refine hz_iald (pc := 90) (j := 128 * v + ksT S) (hz_dec kX12_receiveAsk 50 rfl) hE2.a27 (by omega) (by omega) rfl (by omega) (by decide) ?_
    refine hz_eqi (pc := 91) hRt.2.1 ?_
    refine hz_n_gt (pc := 91) (tgt := 152) (hz_dec kX12_receiveAsk 51 rfl) (by decide) (by omega) (by omega) (fun h4 => ?_) (fun h4 => ?_)
    · skip
      have e : m = adM (enB (ksB S)) (ksT S) x := by omega
      refine hz_iload (pc := 152) 1 (hz_dec kX12_receiveAsk 82 rfl) rfl ?_
      refine hz_z_le (pc := 154) (tgt := 176) (hz_dec kX12_receiveAsk 83 rfl) (by decide) (by omega) (fun h5 => ?_) (fun h5 => ?_)
      · skip
        have eQ : adQ now v fr d S l n = ksQ S := by unfold adQ; rw [← hxa, if_neg (fun q => q.2 (by omega))]
        exact hz_vret (pc := 176) (hz_dec kX12_receiveAsk 96 rfl) rfl ⟨rfl, rfl, hfr, hE2, by rw [eQ]; exact hmg2⟩
      · skip
        have eQ : adQ now v fr d S l n = sd1 now (nI v) fr (nI 3) d (hdB (ksB S) (enB (ksB S)) (ksT S) (eH (enB (ksB S)) x + 1) m) (ksQ S) := by unfold adQ; rw [← hxa, ← e, if_pos ⟨hfn, by omega⟩]
        refine hz_aloadn (pc := 157) 2 (hz_dec kX12_receiveAsk 84 rfl) rfl ?_
        refine hz_iloadn (pc := 158) 3 (hz_dec kX12_receiveAsk 85 rfl) rfl ?_
        refine hz_iloadn (pc := 159) 4 (hz_dec kX12_receiveAsk 86 rfl) rfl ?_
        refine hz_iconst (pc := 160) (v := nI 3) (hz_dec kX12_receiveAsk 87 rfl) (by decide) ?_
        refine hz_aloadn (pc := 161) 2 (hz_dec kX12_receiveAsk 88 rfl) rfl ?_
        refine hz_get (pc := 162) (v := .ref (B + 79)) (hz_dec kX12_receiveAsk 89 rfl) fo_X12_258 hO h8 (by omega) (hF.2 93 (by decide) (by decide)) ?_
        refine hz_iconst (pc := 165) (v := nI 0) (hz_dec kX12_receiveAsk 90 rfl) (by decide) ?_
        refine hz_bipush (pc := 166) (v := nI 80) (hz_dec kX12_receiveAsk 91 rfl) (by decide) ?_
        refine hz_iload (pc := 168) 1 (hz_dec kX12_receiveAsk 92 rfl) rfl ?_
        refine hz_mulN (pc := 170) (hz_dec kX12_receiveAsk 93 rfl) ?_
        have qa := c_msend (κ := κ) hfr.2.1 hE2 h8 hz hmg2.2.2 hmg2.2.1 hE2.a79 (by omega) (by omega) (ne_off (by decide)) (by decide) h79 (by omega) (by omega) (kd := nI 3) hv6 hto
        rw [hlen] at qa
        refine hz_callV (pc := 171) (a := B) (As := [.int (nI v), .int fr, .int (nI 3), .ref (B + 79), .int (nI 0), .int (nI (80 * m))]) (st := []) (hz_dec kX12_receiveAsk 94 rfl) co_X12_622 im_X12_send se_X12_send rfl hO h8 (by omega) (qa) rfl (by decide) ⟨Nat.le_refl _, Nat.le_refl _⟩ (Nat.le_of_ble_eq_true rfl) rfl (fun r9 z9 M3 hp9 => ?_)
        obtain ⟨rfl, rfl, hf3, hE3, hQ3⟩ := hp9
        refine hz_istore (pc := 174) (i := 8) (lo2 := [(8, .int (hz_b (sdR (ksQ S).1 d (80 * m)))), (7, .int (nI (eH (enB (ksB S)) x + 1 + m))), (6, .int (nI m)), (0, .ref B), (1, .int (nI v)), (2, .int fr), (3, .int (nI (ksT S)))]) (hz_dec kX12_receiveAsk 95 rfl) (by decide) rfl ?_
        exact hz_vret (pc := 176) (hz_dec kX12_receiveAsk 96 rfl) rfl ⟨rfl, rfl, hfr.tr (hf3.mono rfl rfl), hE3, by rw [eQ]; unfold sd1; rw [hlen]; exact ⟨(hf3.2.2 1 rfl).trans hmg2.1, by unfold mdD; rw [fA_m hf3 (by decide) rfl]; exact hmg2.2.1, hQ3⟩⟩
    · skip
      have hch := chE_h i1.2.2.2.2.1 (tip := ksT S) (x := eH (enB (ksB S)) x + 1 + m) (by rw [enB_len]; exact i2) (by omega)
      have hln := (i1.2.2.2.2.2.1 (chE (enB (ksB S)) (ksT S) (eH (enB (ksB S)) x + 1 + m)) (by omega)).len
      refine hz_aloadn (pc := 94) 2 (hz_dec kX12_receiveAsk 52 rfl) rfl ?_
      refine hz_iloadn (pc := 95) 3 (hz_dec kX12_receiveAsk 53 rfl) rfl ?_
      refine hz_aloadn (pc := 96) 2 (hz_dec kX12_receiveAsk 54 rfl) rfl ?_
      refine hz_iloadn (pc := 97) 3 (hz_dec kX12_receiveAsk 55 rfl) rfl ?_
      refine hz_iloadn (pc := 98) 5 (hz_dec kX12_receiveAsk 56 rfl) rfl ?_
      refine hz_iload (pc := 99) 0 (hz_dec kX12_receiveAsk 57 rfl) rfl ?_
      refine hz_xV (pc := 101) (a := B) (As := [.int (nI v), .int (nI (ksT S)), .int (nI (eH (enB (ksB S)) x + 1 + m))]) (st := [.int (nI v), .ref B]) (hz_dec kX12_receiveAsk 58 rfl) co_X12_630 im_X12_atHeight se_X12_atHeight rfl hO h8 (by omega) (c_mAt hfr.2.1 hE2 h8 hz hv6 (by omega) (by rw [enB_len]; exact Nat.le_refl _) hmn2.1 i1.2.2.2.2.1 i2 (by omega)) rfl (by decide) ⟨Nat.le_refl _, Nat.le_refl _⟩ (Nat.le_of_ble_eq_true rfl) rfl ?_
      refine hz_callV (pc := 104) (a := B) (As := [.int (nI v), .int (nI (chE (enB (ksB S)) (ksT S) (eH (enB (ksB S)) x + 1 + m)))]) (st := []) (hz_dec kX12_receiveAsk 59 rfl) co_X12_664 im_X12_bring se_X12_bring rfl hO h8 (by omega) (c_br hfr.2.1 hE2 h8 hz hv6 (by omega) hmn2.2.1 (x := chE (enB (ksB S)) (ksT S) (eH (enB (ksB S)) x + 1 + m)) (by omega) (hmn2.2.2 _ (by omega)) (by omega)) rfl (by decide) ⟨Nat.le_refl _, Nat.le_refl _⟩ (Nat.le_of_ble_eq_true rfl) rfl (fun r9 z9 M3 hp9 => ?_)
      obtain ⟨rfl, rfl, hf3, hE3, h393, h353⟩ := hp9
      have hmg3 := hmg2.mf hf3 rfl rfl
      have h793 : isA (fA M3 B 79) 0 (hdB (ksB S) (enB (ksB S)) (ksT S) (eH (enB (ksB S)) x + 1) m) := by rw [fA_m hf3 (by decide) rfl]; exact h79
      refine hz_iconst (pc := 107) (v := nI 0) (hz_dec kX12_receiveAsk 60 rfl) (by decide) ?_
      refine hz_istore (pc := 108) (i := 8) (lo2 := [(8, .int (nI 0)), (7, .int (nI (eH (enB (ksB S)) x + 1 + m))), (6, .int (nI m)), (0, .ref B), (1, .int (nI v)), (2, .int fr), (3, .int (nI (ksT S)))]) (hz_dec kX12_receiveAsk 61 rfl) (by decide) rfl ?_
      refine hz_pick (pc := 110) [0, 1, 2, 3, 4, 5, 6] rfl ?_
      refine c_rAsk_c (S := S) h8 hz (by omega) (by omega) (by omega) h353 hlen (fun M4 hf4 hE4 h794 => ?_) 80 0 M3 rfl (by omega) (mfr.rf hf3.2.1) hE3 h793 (fun q hq => absurd hq (by omega))
      refine hz_incN (pc := 143) (i := 6) (lo2 := [(6, .int (nI (m + 1))), (7, .int (nI (eH (enB (ksB S)) x + 1 + m))), (0, .ref B), (1, .int (nI v)), (2, .int fr), (3, .int (nI (ksT S)))]) 1 (hz_dec kX12_receiveAsk 79 rfl) rfl (by decide) rfl ?_
      refine hz_incN (pc := 146) (i := 7) (lo2 := [(7, .int (nI (eH (enB (ksB S)) x + 1 + m + 1))), (6, .int (nI (m + 1))), (0, .ref B), (1, .int (nI v)), (2, .int fr), (3, .int (nI (ksT S)))]) 1 (hz_dec kX12_receiveAsk 80 rfl) rfl (by decide) rfl ?_
      refine hz_goto (pc := 149) (tgt := 72) (hz_dec kX12_receiveAsk 81 rfl) (by decide) ?_
      refine hz_pick (pc := 72) [0, 1, 2, 3, 4, 5] rfl ?_
      exact ih (adM (enB (ksB S)) (ksT S) x - (m + 1)) (by omega) (m + 1) M4 rfl (by omega) ((hfr.tr (hf3.mono rfl rfl)).tr (hf4.mono rfl rfl)) hE4 (hmg3.mf hf4 rfl rfl) h794
set_option maxHeartbeats 4000000 in
set_option maxRecDepth 100000 in
theorem c_rAsk_l {κ : hz_C} {z B nn v : Nat} {now fr : Int32} {dl : Nat → Nat} (hnn : nn ≤ 6) (hvn : v < nn) {d : Nat} (hto : (∃ b, b < 6 ∧ fr = nI b ∧ d = dl (6 * v + b)) ∨ (fr < 0 ∧ d = 0)) {M : hz_M} {S : ks_S} {l : by_L} (hk0 : md_k B M z) (hE : mdE M B) (hmg : mgR M B nn now dl (ksQ S)) (hmn : mnB M B v (ksB S) (enB (ksB S)) (ksT S)) (hI : ksI S) (hl4 : l.length ≤ 4000) (h78 : isA (fA M B 78) 0 l) (h92 : fdB M B 92 = some (.int (nI l.length))) {n : Nat} (hn : n ≤ 16) (hnl : 32 * n = l.length) : ∀ k i, k = n - i → i ≤ n → (∀ j, j < i → adB (ksB S) (enB (ksB S)) (ksT S) l j = false) → hz_W κ xX12_receiveAsk 4 0 0 (fun r z2 M2 => none = r ∧ z = z2 ∧ mfr B [39, 86, 87, 88] [35, 70, 71, 72, 73, 74, 75, 76, 79] M M2 ∧ mdE M2 B ∧ mgR M2 B nn now dl (adQ now v fr d S l n)) 0 0 10 [(4, .int (nI i)), (0, .ref B), (1, .int (nI v)), (2, .int fr), (3, .int (nI (ksT S)))] [] z M := by
  intro k
  induction k using Nat.strongRecOn with
  | ind k ih =>
  intro i hk hi hno
  obtain ⟨⟨fs0, hO0, hF0⟩, -, -, h8, hz⟩ := id hk0
  obtain ⟨i1, i2, i3, i4, i5⟩ := id hI
  have htop := i1.top
  have hv6 : v < 6 := by omega
  have hte := i1.2.2.2.2.1.ht (k := ksT S) (by rw [enB_len]; exact i2)
  have g92 : fs0[92]? = some (.int (nI l.length)) := (fdB_of hO0 92).symm.trans h92
  refine hz_iload (pc := 10) 0 (hz_dec kX12_receiveAsk 7 rfl) rfl ?_
  refine hz_aloadn (pc := 12) 1 (hz_dec kX12_receiveAsk 8 rfl) rfl ?_
  refine hz_get (pc := 13) (v := .int (nI (l.length))) (hz_dec kX12_receiveAsk 9 rfl) fo_X12_637 hO0 h8 (by omega) g92 ?_
  refine hz_bipush (pc := 16) (v := nI 32) (hz_dec kX12_receiveAsk 10 rfl) (by decide) ?_
  refine hz_divN (pc := 18) (hz_dec kX12_receiveAsk 11 rfl) (by omega) (by decide) (by decide) ?_
  refine hz_eqi (pc := 19) (show _ = nI n by rw [show l.length / 32 = n by omega]) ?_
  refine hz_n_ge (pc := 19) (tgt := 183) (hz_dec kX12_receiveAsk 12 rfl) (by decide) (by omega) (by omega) (fun h1 => ?_) (fun h1 => ?_)
  · skip
    have e : i = n := by omega
    have eQ : adQ now v fr d S l n = ksQ S := by unfold adQ; rw [fsI_no (p := adB (ksB S) (enB (ksB S)) (ksT S) l) n (fun j hj => hno j (by omega)), if_neg (fun q => absurd q.1 (by omega))]
    exact hz_vret (pc := 183) (hz_dec kX12_receiveAsk 99 rfl) rfl ⟨rfl, rfl, mfr.rf hk0.1, hE, by rw [eQ]; exact hmg⟩
  · skip
    have hAi : isA (fA M B 78) (32 * i) (hsI l i) := by have q := isA_sub (i := 32 * i) (n := 32) h78 (by omega); rw [Nat.zero_add] at q; exact q
    refine hz_aloadn (pc := 22) 1 (hz_dec kX12_receiveAsk 13 rfl) rfl ?_
    refine hz_iloadn (pc := 23) 2 (hz_dec kX12_receiveAsk 14 rfl) rfl ?_
    refine hz_aloadn (pc := 24) 1 (hz_dec kX12_receiveAsk 15 rfl) rfl ?_
    refine hz_get (pc := 25) (v := .ref (B + 78)) (hz_dec kX12_receiveAsk 16 rfl) fo_X12_255 hO0 h8 (by omega) (hF0.2 91 (by decide) (by decide)) ?_
    refine hz_bipush (pc := 28) (v := nI 32) (hz_dec kX12_receiveAsk 17 rfl) (by decide) ?_
    refine hz_iload (pc := 30) 0 (hz_dec kX12_receiveAsk 18 rfl) rfl ?_
    refine hz_mulN (pc := 32) (hz_dec kX12_receiveAsk 19 rfl) ?_
    refine hz_xV (pc := 33) (a := B) (As := [.int (nI v), .ref (B + 78), .int (nI (32 * i))]) (st := []) (hz_dec kX12_receiveAsk 20 rfl) co_X12_531 im_X12_findBlock se_X12_findBlock rfl hO0 h8 (by omega) (c_mfB ⟨fs0, hO0, hF0⟩ hE h8 hz hv6 (by omega) hmn.2.1 hE.a78 (by omega) (by omega) (by decide) hAi (subL_len _ _ _) (by omega)) rfl (by decide) ⟨Nat.le_refl _, Nat.le_refl _⟩ (Nat.le_of_ble_eq_true rfl) rfl ?_
    by_cases ck : blF (ksB S) (hsI l i) < (ksB S).length
    · skip
      refine hz_eqi (pc := 36) (show _ = nI (blF (ksB S) (hsI l i)) from if_pos ck) ?_
      refine hz_istore (pc := 36) (i := 5) (lo2 := [(5, .int (nI (blF (ksB S) (hsI l i)))), (4, .int (nI i)), (0, .ref B), (1, .int (nI v)), (2, .int fr), (3, .int (nI (ksT S)))]) (hz_dec kX12_receiveAsk 21 rfl) (by decide) rfl ?_
      refine hz_iload (pc := 38) 0 (hz_dec kX12_receiveAsk 22 rfl) rfl ?_
      refine hz_z_lt (pc := 40) (tgt := 177) (hz_dec kX12_receiveAsk 23 rfl) (by decide) (by omega) ?_
      refine hz_aloadn (pc := 43) 2 (hz_dec kX12_receiveAsk 24 rfl) rfl ?_
      refine hz_iloadn (pc := 44) 3 (hz_dec kX12_receiveAsk 25 rfl) rfl ?_
      refine hz_iload (pc := 45) 0 (hz_dec kX12_receiveAsk 26 rfl) rfl ?_
      refine hz_iloadn (pc := 47) 5 (hz_dec kX12_receiveAsk 27 rfl) rfl ?_
      refine hz_xV (pc := 48) (a := B) (As := [.int (nI v), .int (nI (blF (ksB S) (hsI l i))), .int (nI (ksT S))]) (st := []) (hz_dec kX12_receiveAsk 28 rfl) co_X12_571 im_X12_isOnChain se_X12_isOnChain rfl hO0 h8 (by omega) (c_mOn ⟨fs0, hO0, hF0⟩ hE h8 hz hv6 (by omega) (by rw [enB_len]; exact Nat.le_refl _) hmn.1 i1.2.2.2.2.1 i2 ck) rfl (by decide) ⟨Nat.le_refl _, Nat.le_refl _⟩ (Nat.le_of_ble_eq_true rfl) rfl ?_
      refine hz_if_eq (pc := 51) (tgt := 177) (hz_dec kX12_receiveAsk 29 rfl) (by decide) (fun h3 => ?_) (fun h3 => ?_)
      · skip
        refine hz_incN (pc := 177) (i := 4) (lo2 := [(4, .int (nI (i + 1))), (5, .int (nI (blF (ksB S) (hsI l i)))), (0, .ref B), (1, .int (nI v)), (2, .int fr), (3, .int (nI (ksT S)))]) 1 (hz_dec kX12_receiveAsk 97 rfl) rfl (by decide) rfl ?_
        refine hz_goto (pc := 180) (tgt := 10) (hz_dec kX12_receiveAsk 98 rfl) (by decide) ?_
        refine hz_pick (pc := 10) [0, 2, 3, 4, 5] rfl ?_
        refine ih (n - (i + 1)) (by omega) (i + 1) rfl (by omega) (fun j hj => ?_)
        rcases (show j = i ∨ j < i by omega) with e | c
        · rw [e]; exact decide_eq_false (fun q => by rw [hz_b0 h3] at q; cases q.2)
        · exact hno j c
      · skip
        have hon := hz_b1 h3
        have hfi : fsI (adB (ksB S) (enB (ksB S)) (ksT S) l) n = i := fsI_at (p := adB (ksB S) (enB (ksB S)) (ksT S) l) (decide_eq_true ⟨ck, hon⟩) hno n h1
        have hxa : blF (ksB S) (hsI l i) = adK (ksB S) (enB (ksB S)) (ksT S) l n := by unfold adK; rw [hfi]
        have hxt : eH (enB (ksB S)) (blF (ksB S) (hsI l i)) ≤ eH (enB (ksB S)) (ksT S) := (of_decide_eq_true hon).1
        generalize hx : blF (ksB S) (hsI l i) = x at *
        have hRx := (hmn.1 x (by rw [enB_len]; exact ck)).1 ck
        refine hz_iconst (pc := 54) (v := nI 0) (hz_dec kX12_receiveAsk 30 rfl) (by decide) ?_
        refine hz_istore (pc := 55) (i := 6) (lo2 := [(6, .int (nI 0)), (5, .int (nI x)), (4, .int (nI i)), (0, .ref B), (1, .int (nI v)), (2, .int fr), (3, .int (nI (ksT S)))]) (hz_dec kX12_receiveAsk 31 rfl) (by decide) rfl ?_
        refine hz_aloadn (pc := 57) 3 (hz_dec kX12_receiveAsk 32 rfl) rfl ?_
        refine hz_get (pc := 58) (v := .ref (B + 27)) (hz_dec kX12_receiveAsk 33 rfl) fo_X12_92 hO0 h8 (by omega) (hF0.2 29 (by decide) (by decide)) ?_
        refine hz_iloadn (pc := 61) 4 (hz_dec kX12_receiveAsk 34 rfl) rfl ?_
        refine hz_iload (pc := 62) 1 (hz_dec kX12_receiveAsk 35 rfl) rfl ?_
        refine hz_xS (pc := 64) (As := [.int (nI v), .int (nI x)]) (st := [.ref (B + 27)]) (hz_dec kX12_receiveAsk 36 rfl) co_X12_419 sc_X12_at0 (c_at0) rfl (by decide) ⟨Nat.le_refl _, Nat.le_refl _⟩ (Nat.le_of_ble_eq_true rfl) rfl ?_
        refine hz_iald (pc := 67) (j := 128 * v + x) (hz_dec kX12_receiveAsk 37 rfl) hE.a27 (by omega) (by omega) rfl (by omega) (by decide) ?_
        refine hz_eqi (pc := 68) hRx.2.1 ?_
        refine hz_iconst (pc := 68) (v := nI 1) (hz_dec kX12_receiveAsk 38 rfl) (by decide) ?_
        refine hz_addN (pc := 69) (hz_dec kX12_receiveAsk 39 rfl) ?_
        refine hz_istore (pc := 70) (i := 7) (lo2 := [(7, .int (nI ((eH (enB (ksB S)) x) + 1))), (6, .int (nI 0)), (5, .int (nI x)), (4, .int (nI i)), (0, .ref B), (1, .int (nI v)), (2, .int fr), (3, .int (nI (ksT S)))]) (hz_dec kX12_receiveAsk 40 rfl) (by decide) rfl ?_
        refine hz_pick (pc := 72) [0, 1, 4, 5, 6, 7] rfl ?_
        exact c_rAsk_i hnn hvn hto hk0 hE hmg hmn hI hl4 h78 h92 hn hnl ck hxa (by omega) hxt (adM (enB (ksB S)) (ksT S) x) 0 M rfl (Nat.zero_le _) (mfr.rf hk0.1) hE hmg (isA_nil _ _)
    · skip
      refine hz_eqi (pc := 36) (show _ = (-1 : Int32) from if_neg ck) ?_
      refine hz_istore (pc := 36) (i := 5) (lo2 := [(5, .int (-1)), (4, .int (nI i)), (0, .ref B), (1, .int (nI v)), (2, .int fr), (3, .int (nI (ksT S)))]) (hz_dec kX12_receiveAsk 21 rfl) (by decide) rfl ?_
      refine hz_iload (pc := 38) 0 (hz_dec kX12_receiveAsk 22 rfl) rfl ?_
      refine hz_if_lt (pc := 40) (tgt := 177) (hz_dec kX12_receiveAsk 23 rfl) (by decide) (fun h2 => ?_) (fun h2 => ?_)
      · skip
        refine hz_incN (pc := 177) (i := 4) (lo2 := [(4, .int (nI (i + 1))), (5, .int (-1)), (0, .ref B), (1, .int (nI v)), (2, .int fr), (3, .int (nI (ksT S)))]) 1 (hz_dec kX12_receiveAsk 97 rfl) rfl (by decide) rfl ?_
        refine hz_goto (pc := 180) (tgt := 10) (hz_dec kX12_receiveAsk 98 rfl) (by decide) ?_
        refine hz_pick (pc := 10) [0, 2, 3, 4, 5] rfl ?_
        refine ih (n - (i + 1)) (by omega) (i + 1) rfl (by omega) (fun j hj => ?_)
        rcases (show j = i ∨ j < i by omega) with e | c
        · rw [e]; exact decide_eq_false (fun q => ck q.1)
        · exact hno j c
      · skip
        exact absurd (by decide) h2
set_option maxHeartbeats 4000000 in
set_option maxRecDepth 100000 in
theorem c_rAsk {κ : hz_C} {z B nn v : Nat} {now fr : Int32} {dl : Nat → Nat} (hnn : nn ≤ 6) (hvn : v < nn) {d : Nat} (hto : (∃ b, b < 6 ∧ fr = nI b ∧ d = dl (6 * v + b)) ∨ (fr < 0 ∧ d = 0)) {M : hz_M} {S : ks_S} {l : by_L} (hk0 : md_k B M z) (hE : mdE M B) (hmg : mgR M B nn now dl (ksQ S)) (hmn : mnB M B v (ksB S) (enB (ksB S)) (ksT S)) (hI : ksI S) (hl4 : l.length ≤ 4000) (h78 : isA (fA M B 78) 0 l) (h92 : fdB M B 92 = some (.int (nI l.length))) {n : Nat} (hn : n ≤ 16) (hnl : 32 * n = l.length) : hz_Mt κ xX12_receiveAsk 4 0 0 [.ref B, .int (nI v), .int fr] z M (fun r z2 M2 => none = r ∧ z = z2 ∧ mfr B [39, 86, 87, 88] [35, 70, 71, 72, 73, 74, 75, 76, 79] M M2 ∧ mdE M2 B ∧ mgR M2 B nn now dl (adQ now v fr d S l n)) := by
  refine hz_ent (lo := [(0, .ref B), (1, .int (nI v)), (2, .int fr)]) (by decide) (Nat.le_of_ble_eq_true rfl) rfl ?_
  obtain ⟨⟨fs, hO, hF⟩, -, -, h8, hz⟩ := id hk0
  refine hz_aloadn (pc := 0) 0 (hz_dec kX12_receiveAsk 0 rfl) rfl ?_
  refine hz_get (pc := 1) (v := .ref (B + 21)) (hz_dec kX12_receiveAsk 1 rfl) fo_X12_74 hO h8 (by omega) (hF.2 23 (by decide) (by decide)) ?_
  refine hz_iloadn (pc := 4) 1 (hz_dec kX12_receiveAsk 2 rfl) rfl ?_
  refine hz_iald (pc := 5) (j := v) (hz_dec kX12_receiveAsk 3 rfl) hE.a21 (by omega) (by omega) rfl (by omega) (by decide) ?_
  refine hz_eqi (pc := 6) hmn.2.1.2.1 ?_
  refine hz_istoren (pc := 6) (i := 3) (lo2 := [(3, .int (nI (ksT S))), (0, .ref B), (1, .int (nI v)), (2, .int fr)]) (hz_dec kX12_receiveAsk 4 rfl) rfl (by decide) rfl ?_
  refine hz_iconst (pc := 7) (v := nI 0) (hz_dec kX12_receiveAsk 5 rfl) (by decide) ?_
  refine hz_istore (pc := 8) (i := 4) (lo2 := [(4, .int (nI 0)), (3, .int (nI (ksT S))), (0, .ref B), (1, .int (nI v)), (2, .int fr)]) (hz_dec kX12_receiveAsk 6 rfl) (by decide) rfl ?_
  refine hz_pick (pc := 10) [0, 2, 3, 4, 1] rfl ?_
  exact c_rAsk_l hnn hvn hto hk0 hE hmg hmn hI hl4 h78 h92 hn hnl n 0 rfl (Nat.zero_le _) (fun j hj => absurd hj (by omega))
