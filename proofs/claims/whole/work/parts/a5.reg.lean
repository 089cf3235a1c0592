/-! the reference: register -/
def bkO (bl : List bk_B) (en : List en_E) (l : by_L) (pv : Option Nat) : bk_B := (l, pv, pvH en pv, (match pv with
  | none => 0
  | some p => bTo bl p) + wkN (bn_int (lf l) 68))
def enO (en : List en_E) (l : by_L) (pv : Option Nat) : en_E := (pv, pvH en pv, bn_int (lf l) 64, bn_int (lf l) 68)
set_option maxHeartbeats 4000000 in
set_option maxRecDepth 100000 in
theorem c_reg3 {κ : hz_C} {z : Nat} {M0 : hz_M} {B : Nat} (hk0 : md_k B M0 z) (hE0 : mdE M0 B) {v n : Nat} (hv : v < 6) (hn : n < 128) {l : by_L} (hW : blW l) (hA0 : isA (fA M0 B 35) 0 l) (h140 : ∀ j, j ≤ bkN l → fA M0 B 14 j = nI (bkS l j)) (h160 : fdB M0 B 16 = some (.int (nI (bkN l)))) {pl pr : Int32} {P : hz_P} (hP : ∀ M2, mfr B [] [3, 4, 5, 33] M0 M2 → mdE M2 B → agV M0 M2 B v → (∀ j, j < bkN l → fL M2 B 33 (8 * (128 * v + n) + j) = idS (bkT l j)) → (∀ x, x < 8 * (128 * v + n) ∨ 8 * (128 * v + n) + 8 ≤ x → fL M2 B 33 x = fL M0 B 33 x) → P none z M2) : ∀ k i M, k = bkN l - i → i ≤ bkN l → mfr B [] [3, 4, 5, 33] M0 M → mdE M B → agV M0 M B v → (∀ j, j < i → fL M B 33 (8 * (128 * v + n) + j) = idS (bkT l j)) → (∀ x, x < 8 * (128 * v + n) ∨ 8 * (128 * v + n) + 8 ≤ x → fL M B 33 x = fL M0 B 33 x) → hz_W κ xX12_register 4 0 0 P 0 0 247 [(6, .int (nI i)), (5, .int (nI (128 * v + n))), (0, .ref B), (1, .int (nI v)), (2, .int pl), (3, .int pr), (4, .int (nI n))] [] z M := by
  intro k
  induction k using Nat.strongRecOn with
  | ind k ih =>
  intro i M hk hi hfr hE hag h33 h33o
  obtain ⟨-, -, -, h8, hz⟩ := id hk0
  obtain ⟨fs, hO, hF⟩ := id hfr.2.1
  have g16 : fs[16]? = some (.int (nI (bkN l))) := (fdB_of hO 16).symm.trans ((hfr.2.2 16 rfl).trans h160)
  have hN8 := hW.f.2.2.2.2.1
  have h14 : ∀ j, j ≤ bkN l → fA M B 14 j = nI (bkS l j) := by rw [fA_m hfr (by decide) rfl]; exact h140
  have hA : isA (fA M B 35) 0 l := by rw [fA_m hfr (by decide) rfl]; exact hA0
  have hln9 := hW.len
  refine hz_iload (pc := 247) 0 (hz_dec kX12_register 136 rfl) rfl ?_
  refine hz_aloadn (pc := 249) 2 (hz_dec kX12_register 137 rfl) rfl ?_
  refine hz_get (pc := 250) (v := .int (nI (bkN l))) (hz_dec kX12_register 138 rfl) fo_X12_409 hO h8 (by omega) g16 ?_
  refine hz_n_ge (pc := 253) (tgt := 307) (hz_dec kX12_register 139 rfl) (by decide) (by omega) (by omega) (fun h1 => ?_) (fun h1 => ?_)
  · skip
    have e : i = bkN l := by omega
    exact hz_vret (pc := 307) (hz_dec kX12_register 169 rfl) rfl (hP M hfr hE hag (fun j hj => h33 j (by omega)) h33o)
  · skip
    have tj := hW.t h1
    have tA := hW.A hA h1
    rw [Nat.zero_add] at tA
    have tl := txW_len tj.2.1
    have hkM : md_k B M z := hk0.mf hfr rfl rfl
    refine hz_aloadn (pc := 256) 2 (hz_dec kX12_register 140 rfl) rfl ?_
    refine hz_get (pc := 257) (v := .ref (B + 33)) (hz_dec kX12_register 141 rfl) fo_X12_110 hO h8 (by omega) (hF.2 35 (by decide) (by decide)) ?_
    refine hz_bipush (pc := 260) (v := nI 8) (hz_dec kX12_register 142 rfl) (by decide) ?_
    refine hz_iload (pc := 262) 1 (hz_dec kX12_register 143 rfl) rfl ?_
    refine hz_mulN (pc := 264) (hz_dec kX12_register 144 rfl) ?_
    refine hz_iload (pc := 265) 0 (hz_dec kX12_register 145 rfl) rfl ?_
    refine hz_addN (pc := 267) (hz_dec kX12_register 146 rfl) ?_
    refine hz_aloadn (pc := 268) 2 (hz_dec kX12_register 147 rfl) rfl ?_
    refine hz_aloadn (pc := 269) 2 (hz_dec kX12_register 148 rfl) rfl ?_
    refine hz_get (pc := 270) (v := .ref (B + 35)) (hz_dec kX12_register 149 rfl) fo_X12_116 hO h8 (by omega) (hF.2 38 (by decide) (by decide)) ?_
    refine hz_aloadn (pc := 273) 2 (hz_dec kX12_register 150 rfl) rfl ?_
    refine hz_get (pc := 274) (v := .ref (B + 14)) (hz_dec kX12_register 151 rfl) fo_X12_51 hO h8 (by omega) (hF.2 15 (by decide) (by decide)) ?_
    refine hz_iload (pc := 277) 0 (hz_dec kX12_register 152 rfl) rfl ?_
    refine hz_iald (pc := 279) (j := i) (hz_dec kX12_register 153 rfl) hE.a14 (by omega) (by omega) rfl (by omega) (by decide) ?_
    refine hz_eqi (pc := 280) (h14 (i) (by omega)) ?_
    refine hz_aloadn (pc := 280) 2 (hz_dec kX12_register 154 rfl) rfl ?_
    refine hz_get (pc := 281) (v := .ref (B + 14)) (hz_dec kX12_register 155 rfl) fo_X12_51 hO h8 (by omega) (hF.2 15 (by decide) (by decide)) ?_
    refine hz_iload (pc := 284) 0 (hz_dec kX12_register 156 rfl) rfl ?_
    refine hz_iconst (pc := 286) (v := nI 1) (hz_dec kX12_register 157 rfl) (by decide) ?_
    refine hz_addN (pc := 287) (hz_dec kX12_register 158 rfl) ?_
    refine hz_iald (pc := 288) (j := i + 1) (hz_dec kX12_register 159 rfl) hE.a14 (by omega) (by omega) rfl (by omega) (by decide) ?_
    refine hz_eqi (pc := 289) (h14 (i + 1) (by omega)) ?_
    refine hz_aloadn (pc := 289) 2 (hz_dec kX12_register 160 rfl) rfl ?_
    refine hz_get (pc := 290) (v := .ref (B + 14)) (hz_dec kX12_register 161 rfl) fo_X12_51 hO h8 (by omega) (hF.2 15 (by decide) (by decide)) ?_
    refine hz_iload (pc := 293) 0 (hz_dec kX12_register 162 rfl) rfl ?_
    refine hz_iald (pc := 295) (j := i) (hz_dec kX12_register 163 rfl) hE.a14 (by omega) (by omega) rfl (by omega) (by decide) ?_
    refine hz_eqi (pc := 296) (h14 (i) (by omega)) ?_
    refine hz_subN (pc := 296) (hz_dec kX12_register 164 rfl) (by omega) ?_
    refine hz_eqi (pc := 297) (show _ = nI (bkT l i).length by rw [tj.1, Nat.add_sub_cancel_left]) ?_
    refine hz_callV (pc := 297) (a := B) (As := [.ref (B + 35), .int (nI (bkS l (i))), .int (nI ((bkT l i).length))]) (st := [.int (nI ((8 * (128 * v + n)) + i)), .ref (B + 33)]) (hz_dec kX12_register 165 rfl) co_X12_338 im_X12_shortOf se_X12_shortOf rfl hO h8 (by omega) (c_shortOf (n := (bkT l i).length) hkM hE.s hE.a35 (by omega) (by omega) (by decide) (by omega)) rfl (by decide) ⟨Nat.le_refl _, Nat.le_refl _⟩ (Nat.le_of_ble_eq_true rfl) rfl (fun r9 z9 M1 hp9 => ?_)
    obtain ⟨rfl, rfl, hf1, hs1, -⟩ := hp9
    refine hz_eql (pc := 300) (show _ = idS (bkT l i) by rw [shS_of tA rfl]; rfl) ?_
    have hm1 : mfr B [] [3, 4, 5] M M1 := mfr.ofl ⟨fs, hO, hF⟩ hf1 rfl
    have hE1 : mdE M1 B := hE.hs hm1 hs1 rfl
    obtain ⟨fs1, hO1, hF1⟩ := id hm1.2.1
    refine hz_last (pc := 300) (j := (8 * (128 * v + n)) + i) (hz_dec kX12_register 166 rfl) hE1.a33 (by omega) (by omega) rfl (by omega) (by decide) ?_
    refine hz_incN (pc := 301) (i := 6) (lo2 := [(6, .int (nI (i + 1))), (5, .int (nI (128 * v + n))), (0, .ref B), (1, .int (nI v)), (2, .int pl), (3, .int pr), (4, .int (nI n))]) 0 (hz_dec kX12_register 167 rfl) rfl (by decide) rfl ?_
    refine hz_goto (pc := 304) (tgt := 247) (hz_dec kX12_register 168 rfl) (by decide) ?_
    refine hz_pick (pc := 247) [0, 1, 2, 3, 4, 5, 6] rfl ?_
    have e33 : fL M1 B 33 = fL M B 33 := fL_c (hm1.at 33 (by decide) rfl)
    refine ih (bkN l - (i + 1)) (by omega) (i + 1) _ rfl (by omega) ((hfr.tr (hm1.mono rfl rfl)).upA (o := 33) rfl (by decide)) (hE1.upL (by decide)) ((hag.tr (agV.mf hm1 rfl rfl)).upL (s := 1024) (by decide) (by decide) (fun x hx => updL_o (by omega))) (fun j hj => ?_) (fun x hx => ?_)
    · rw [fL_of (va_up_self _ _ _)]
      rcases (show j = i ∨ j < i by omega) with e | c
      · rw [e, updL_s]
      · rw [updL_o (by omega), e33]; exact h33 j c
    · rw [fL_of (va_up_self _ _ _), updL_o (by omega), e33]; exact h33o x hx
set_option maxHeartbeats 4000000 in
set_option maxRecDepth 100000 in
theorem c_reg2 {κ : hz_C} {z : Nat} {M0 : hz_M} {B : Nat} (hE0 : mdE M0 B) (h8 : 8 ≤ B) (hz : B + 88 ≤ z) {v n : Nat} (hv : v < 6) (hn : n < 128) {pl pr : Int32} {P : hz_P} (K : ∀ M2, mfr B [] [31] M0 M2 → mdE M2 B → agV M0 M2 B v → (∀ j, j < 9 → fA M2 B 31 (9 * (128 * v + n) + j) = fA M0 B 36 j) → (∀ x, x < 9 * (128 * v + n) ∨ 9 * (128 * v + n) + 9 ≤ x → fA M2 B 31 x = fA M0 B 31 x) → hz_W κ xX12_register 4 0 0 P 0 0 233 [(5, .int (nI (128 * v + n))), (0, .ref B), (1, .int (nI v)), (2, .int pl), (3, .int pr), (4, .int (nI n))] [] z M2) : ∀ k i M, k = 9 - i → i ≤ 9 → mfr B [] [31] M0 M → mdE M B → agV M0 M B v → (∀ j, j < i → fA M B 31 (9 * (128 * v + n) + j) = fA M0 B 36 j) → (∀ x, x < 9 * (128 * v + n) ∨ 9 * (128 * v + n) + 9 ≤ x → fA M B 31 x = fA M0 B 31 x) → hz_W κ xX12_register 4 0 0 P 0 0 200 [(6, .int (nI i)), (5, .int (nI (128 * v + n))), (0, .ref B), (1, .int (nI v)), (2, .int pl), (3, .int pr), (4, .int (nI n))] [] z M := by
  intro k
  induction k using Nat.strongRecOn with
  | ind k ih =>
  intro i M hk hi hfr hE hag h31 h31o
  obtain ⟨fs, hO, hF⟩ := id hfr.2.1
  refine hz_iload (pc := 200) 0 (hz_dec kX12_register 111 rfl) rfl ?_
  refine hz_bipush (pc := 202) (v := nI 9) (hz_dec kX12_register 112 rfl) (by decide) ?_
  refine hz_n_ge (pc := 204) (tgt := 233) (hz_dec kX12_register 113 rfl) (by decide) (by omega) (by omega) (fun h1 => ?_) (fun h1 => ?_)
  · skip
    have e : i = 9 := by omega
    refine hz_pick (pc := 233) [1, 2, 3, 4, 5, 6] rfl ?_
    exact K M hfr hE hag (fun j hj => h31 j (by omega)) h31o
  · skip
    refine hz_aloadn (pc := 207) 2 (hz_dec kX12_register 114 rfl) rfl ?_
    refine hz_get (pc := 208) (v := .ref (B + 31)) (hz_dec kX12_register 115 rfl) fo_X12_104 hO h8 (by omega) (hF.2 33 (by decide) (by decide)) ?_
    refine hz_bipush (pc := 211) (v := nI 9) (hz_dec kX12_register 116 rfl) (by decide) ?_
    refine hz_iload (pc := 213) 1 (hz_dec kX12_register 117 rfl) rfl ?_
    refine hz_mulN (pc := 215) (hz_dec kX12_register 118 rfl) ?_
    refine hz_iload (pc := 216) 0 (hz_dec kX12_register 119 rfl) rfl ?_
    refine hz_addN (pc := 218) (hz_dec kX12_register 120 rfl) ?_
    refine hz_aloadn (pc := 219) 2 (hz_dec kX12_register 121 rfl) rfl ?_
    refine hz_get (pc := 220) (v := .ref (B + 36)) (hz_dec kX12_register 122 rfl) fo_X12_119 hO h8 (by omega) (hF.2 40 (by decide) (by decide)) ?_
    refine hz_iload (pc := 223) 0 (hz_dec kX12_register 123 rfl) rfl ?_
    refine hz_iald (pc := 225) (j := i) (hz_dec kX12_register 124 rfl) hE.a36 (by omega) (by omega) rfl (by omega) (by decide) ?_
    refine hz_iast (pc := 226) (j := (9 * (128 * v + n)) + i) (hz_dec kX12_register 125 rfl) hE.a31 (by omega) (by omega) rfl (by omega) (by decide) ?_
    refine hz_incN (pc := 227) (i := 6) (lo2 := [(6, .int (nI (i + 1))), (5, .int (nI (128 * v + n))), (0, .ref B), (1, .int (nI v)), (2, .int pl), (3, .int pr), (4, .int (nI n))]) 0 (hz_dec kX12_register 126 rfl) rfl (by decide) rfl ?_
    refine hz_goto (pc := 230) (tgt := 200) (hz_dec kX12_register 127 rfl) (by decide) ?_
    refine hz_pick (pc := 200) [0, 1, 2, 3, 4, 5, 6] rfl ?_
    have e36 : fA M B 36 = fA M0 B 36 := fA_m hfr (by decide) rfl
    refine ih (9 - (i + 1)) (by omega) (i + 1) _ rfl (by omega) (hfr.upA (o := 31) rfl (by decide)) (hE.upA (by decide)) (hag.upA (s := 1152) (by decide) (by decide) (fun x hx => upd_o (by omega))) (fun j hj => ?_) (fun x hx => ?_)
    · rw [fA_of (va_up_self _ _ _)]
      rcases (show j = i ∨ j < i by omega) with e | c
      · rw [e, upd_s, e36]
      · rw [upd_o (by omega)]; exact h31 j c
    · rw [fA_of (va_up_self _ _ _), upd_o (by omega)]; exact h31o x hx
set_option maxHeartbeats 4000000 in
set_option maxRecDepth 100000 in
theorem c_reg1 {κ : hz_C} {z : Nat} {M0 : hz_M} {B : Nat} (hE0 : mdE M0 B) (h8 : 8 ≤ B) (hz : B + 88 ≤ z) {v n : Nat} (hv : v < 6) (hn : n < 128) {pl pr : Int32} {P : hz_P} {p : Nat} (hp : p < n) (K : ∀ M2, mfr B [] [36] M0 M2 → mdE M2 B → (∀ j, j < 9 → fA M2 B 36 j = fA M0 B 31 (9 * (128 * v + p) + j)) → hz_W κ xX12_register 4 0 0 P 0 0 186 [(5, .int (nI (128 * v + n))), (0, .ref B), (1, .int (nI v)), (2, .int pl), (3, .int (nI p)), (4, .int (nI n))] [] z M2) : ∀ k i M, k = 9 - i → i ≤ 9 → mfr B [] [36] M0 M → mdE M B → (∀ j, j < i → fA M B 36 j = fA M0 B 31 (9 * (128 * v + p) + j)) → hz_W κ xX12_register 4 0 0 P 0 0 146 [(6, .int (nI i)), (5, .int (nI (128 * v + n))), (0, .ref B), (1, .int (nI v)), (2, .int pl), (3, .int (nI p)), (4, .int (nI n))] [] z M := by
  intro k
  induction k using Nat.strongRecOn with
  | ind k ih =>
  intro i M hk hi hfr hE h36
  obtain ⟨fs, hO, hF⟩ := id hfr.2.1
  refine hz_iload (pc := 146) 0 (hz_dec kX12_register 83 rfl) rfl ?_
  refine hz_bipush (pc := 148) (v := nI 9) (hz_dec kX12_register 84 rfl) (by decide) ?_
  refine hz_n_ge (pc := 150) (tgt := 186) (hz_dec kX12_register 85 rfl) (by decide) (by omega) (by omega) (fun h1 => ?_) (fun h1 => ?_)
  · skip
    have e : i = 9 := by omega
    refine hz_pick (pc := 186) [1, 2, 3, 4, 5, 6] rfl ?_
    exact K M hfr hE (fun j hj => h36 j (by omega))
  · skip
    refine hz_iloadn (pc := 153) 5 (hz_dec kX12_register 86 rfl) rfl ?_
    refine hz_z_lt (pc := 154) (tgt := 186) (hz_dec kX12_register 87 rfl) (by decide) (by omega) ?_
    refine hz_aloadn (pc := 157) 2 (hz_dec kX12_register 88 rfl) rfl ?_
    refine hz_get (pc := 158) (v := .ref (B + 36)) (hz_dec kX12_register 89 rfl) fo_X12_119 hO h8 (by omega) (hF.2 40 (by decide) (by decide)) ?_
    refine hz_iload (pc := 161) 0 (hz_dec kX12_register 90 rfl) rfl ?_
    refine hz_aloadn (pc := 163) 2 (hz_dec kX12_register 91 rfl) rfl ?_
    refine hz_get (pc := 164) (v := .ref (B + 31)) (hz_dec kX12_register 92 rfl) fo_X12_104 hO h8 (by omega) (hF.2 33 (by decide) (by decide)) ?_
    refine hz_bipush (pc := 167) (v := nI 9) (hz_dec kX12_register 93 rfl) (by decide) ?_
    refine hz_iloadn (pc := 169) 3 (hz_dec kX12_register 94 rfl) rfl ?_
    refine hz_iloadn (pc := 170) 5 (hz_dec kX12_register 95 rfl) rfl ?_
    refine hz_xS (pc := 171) (As := [.int (nI v), .int (nI p)]) (st := [.int (nI 9), .ref (B + 31), .int (nI i), .ref (B + 36)]) (hz_dec kX12_register 96 rfl) co_X12_419 sc_X12_at0 (c_at0) rfl (by decide) ⟨Nat.le_refl _, Nat.le_refl _⟩ (Nat.le_of_ble_eq_true rfl) rfl ?_
    refine hz_mulN (pc := 174) (hz_dec kX12_register 97 rfl) ?_
    refine hz_iload (pc := 175) 0 (hz_dec kX12_register 98 rfl) rfl ?_
    refine hz_addN (pc := 177) (hz_dec kX12_register 99 rfl) ?_
    refine hz_iald (pc := 178) (j := (9 * (128 * v + p)) + i) (hz_dec kX12_register 100 rfl) hE.a31 (by omega) (by omega) rfl (by omega) (by decide) ?_
    refine hz_iast (pc := 179) (j := i) (hz_dec kX12_register 101 rfl) hE.a36 (by omega) (by omega) rfl (by omega) (by decide) ?_
    refine hz_incN (pc := 180) (i := 6) (lo2 := [(6, .int (nI (i + 1))), (5, .int (nI (128 * v + n))), (0, .ref B), (1, .int (nI v)), (2, .int pl), (3, .int (nI p)), (4, .int (nI n))]) 0 (hz_dec kX12_register 102 rfl) rfl (by decide) rfl ?_
    refine hz_goto (pc := 183) (tgt := 146) (hz_dec kX12_register 103 rfl) (by decide) ?_
    refine hz_pick (pc := 146) [0, 1, 2, 3, 4, 5, 6] rfl ?_
    have e31 : fA M B 31 = fA M0 B 31 := fA_m hfr (by decide) rfl
    refine ih (9 - (i + 1)) (by omega) (i + 1) _ rfl (by omega) (hfr.upA (o := 36) rfl (by decide)) (hE.upA (by decide)) (fun j hj => ?_)
    rw [fA_of (va_up_self _ _ _)]
    rcases (show j = i ∨ j < i by omega) with e | c
    · rw [e, upd_s, e31]
    · rw [upd_o (by omega)]; exact h36 j c
set_option maxHeartbeats 4000000 in
set_option maxRecDepth 100000 in
theorem c_regB {κ : hz_C} {z : Nat} {M0 : hz_M} {B : Nat} (hk0 : md_k B M0 z) (hE0 : mdE M0 B) {v n : Nat} (hv : v < 6) (hn : n < 128) {l : by_L} (hW : blW l) (hA0 : isA (fA M0 B 35) 0 l) (h140 : ∀ j, j ≤ bkN l → fA M0 B 14 j = nI (bkS l j)) (h160 : fdB M0 B 16 = some (.int (nI (bkN l)))) {pl : Int32} {P : hz_P} {p : Nat} (hp : p < n) (hRt : tgR (bn_int (lf l) 68) = true) (h29 : fA M0 B 29 (128 * v + n) = bn_int (lf l) 68) (hto : bg (fA M0 B 31) (9 * (128 * v + p)) 9 + wkN (bn_int (lf l) 68) < 4294967296 ^ 9) (hP : ∀ M2, mfr B [] [3, 4, 5, 10, 11, 12, 13, 31, 32, 33, 36] M0 M2 → mdE M2 B → agV M0 M2 B v → fA M2 B 32 (128 * v + n) = nI (bkN l) → (∀ x, ¬ x = (128 * v + n) → fA M2 B 32 x = fA M0 B 32 x) → bg (fA M2 B 31) (9 * (128 * v + n)) 9 = bg (fA M0 B 31) (9 * (128 * v + p)) 9 + wkN (bn_int (lf l) 68) → (∀ x, x < 9 * (128 * v + n) ∨ 9 * (128 * v + n) + 9 ≤ x → fA M2 B 31 x = fA M0 B 31 x) → (∀ j, j < bkN l → fL M2 B 33 (8 * (128 * v + n) + j) = idS (bkT l j)) → (∀ x, x < 8 * (128 * v + n) ∨ 8 * (128 * v + n) + 8 ≤ x → fL M2 B 33 x = fL M0 B 33 x) → P none z M2) : hz_W κ xX12_register 4 0 0 P 0 0 125 [(5, .int (nI (128 * v + n))), (0, .ref B), (1, .int (nI v)), (2, .int pl), (3, .int (nI p)), (4, .int (nI n))] [] z M0 := by
  obtain ⟨⟨fs, hO, hF⟩, -, -, h8, hz⟩ := id hk0
  have r1 := (tgR_b hRt).1
  have r2 := (tgR_b hRt).2.1
  have r3 := (tgR_b hRt).2.2
  refine hz_aloadn (pc := 125) 1 (hz_dec kX12_register 72 rfl) rfl ?_
  refine hz_aloadn (pc := 126) 1 (hz_dec kX12_register 73 rfl) rfl ?_
  refine hz_get (pc := 127) (v := .ref (B + 29)) (hz_dec kX12_register 74 rfl) fo_X12_98 hO h8 (by omega) (hF.2 31 (by decide) (by decide)) ?_
  refine hz_iload (pc := 130) 0 (hz_dec kX12_register 75 rfl) rfl ?_
  refine hz_iald (pc := 132) (j := 128 * v + n) (hz_dec kX12_register 76 rfl) hE0.a29 (by omega) (by omega) rfl (by omega) (by decide) ?_
  refine hz_eqi (pc := 133) h29 ?_
  refine hz_callV (pc := 133) (a := B) (As := [.int (bn_int (lf l) 68)]) (st := []) (hz_dec kX12_register 77 rfl) co_X12_453 im_X12_findWork se_X12_findWork rfl hO h8 (by omega) (c_findWork hO hF h8 hz hE0.t (by omega) r2 r3) rfl (by decide) ⟨Nat.le_refl _, Nat.le_refl _⟩ (Nat.le_of_ble_eq_true rfl) rfl (fun r9 z9 M1 hp9 => ?_)
  obtain ⟨rfl, rfl, hf1, ht1, w1, hw1, hwb⟩ := hp9
  have hm1 : mfr B [] [10, 11, 12, 13] M0 M1 := mfr.ofl ⟨fs, hO, hF⟩ hf1 rfl
  have hE1 : mdE M1 B := hE0.ht hm1 ht1 rfl
  obtain ⟨fs1, hO1, hF1⟩ := id hm1.2.1
  refine hz_aloadn (pc := 136) 1 (hz_dec kX12_register 78 rfl) rfl ?_
  refine hz_get (pc := 137) (v := .ref (B + 36)) (hz_dec kX12_register 79 rfl) fo_X12_119 hO1 h8 (by omega) (hF1.2 40 (by decide) (by decide)) ?_
  refine hz_callS (pc := 140) (As := [.ref (B + 36)]) (st := []) (hz_dec kX12_register 80 rfl) co_X12_360 sc_X12_clearBig (c_clear hE1.a36 (by omega) (by omega)) rfl (by decide) ⟨Nat.le_refl _, Nat.le_refl _⟩ (Nat.le_of_ble_eq_true rfl) rfl (fun r9 z9 M2 hp9 => ?_)
  obtain ⟨rfl, rfl, s2, hs2, hM2⟩ := hp9
  have hm2 : mfr B [] [36] M1 M2 := hM2 ▸ (mfr.rf ⟨fs1, hO1, hF1⟩).upA (o := 36) rfl (by decide)
  have hE2 : mdE M2 B := hM2 ▸ hE1.upA (by decide)
  have e362 : fA M2 B 36 = s2 := by rw [← hM2]; exact fA_of (va_up_self _ _ _)
  obtain ⟨fs2, hO2, hF2⟩ := id hm2.2.1
  refine hz_iconst (pc := 143) (v := nI 0) (hz_dec kX12_register 81 rfl) (by decide) ?_
  refine hz_istore (pc := 144) (i := 6) (lo2 := [(6, .int (nI 0)), (5, .int (nI (128 * v + n))), (0, .ref B), (1, .int (nI v)), (2, .int pl), (3, .int (nI p)), (4, .int (nI n))]) (hz_dec kX12_register 82 rfl) (by decide) rfl ?_
  refine hz_pick (pc := 146) [0, 1, 2, 3, 4, 5, 6] rfl ?_
  refine c_reg1 (pr := pl) hE2 h8 hz hv hn hp (fun M3 hm3 hE3 h363 => ?_) 9 0 M2 rfl (by omega) (mfr.rf hm2.2.1) hE2 (fun j hj => absurd hj (by omega))
  have hm23 : mfr B [] [36] M1 M3 := hm2.tr hm3
  have hm03 : mfr B [] [10, 11, 12, 13, 36] M0 M3 := (hm1.mono rfl rfl).tr (hm23.mono rfl rfl)
  obtain ⟨fs3, hO3, hF3⟩ := id hm3.2.1
  have hsm : bg (fA M3 B 36) 0 9 = bg (fA M0 B 31) (9 * (128 * v + p)) 9 := bg_c 9 (fun j hj => by rw [Nat.zero_add, h363 j hj, fA_m (hm2.mono rfl rfl : mfr B [] [36] M1 M2) (by decide) rfl, fA_m hm1 (by decide) rfl])
  refine hz_aloadn (pc := 186) 1 (hz_dec kX12_register 104 rfl) rfl ?_
  refine hz_get (pc := 187) (v := .ref (B + 36)) (hz_dec kX12_register 105 rfl) fo_X12_119 hO3 h8 (by omega) (hF3.2 40 (by decide) (by decide)) ?_
  refine hz_aloadn (pc := 190) 1 (hz_dec kX12_register 106 rfl) rfl ?_
  refine hz_get (pc := 191) (v := .ref (B + 12)) (hz_dec kX12_register 107 rfl) fo_X12_45 hO3 h8 (by omega) (hF3.2 13 (by decide) (by decide)) ?_
  have hw3 : M3 (B + 12) = .inl (0, 9, .inl w1) := (hm23.at 12 (by decide) rfl).trans hw1
  refine hz_callS (pc := 194) (As := [.ref (B + 36), .ref (B + 12)]) (st := []) (hz_dec kX12_register 108 rfl) co_X12_380 sc_X12_addBig (c_addB hE3.a36 (by omega) (by omega) hw3 (by omega) (by omega) (by omega)) rfl (by decide) ⟨Nat.le_refl _, Nat.le_refl _⟩ (Nat.le_of_ble_eq_true rfl) rfl (fun r9 z9 M4 hp9 => ?_)
  obtain ⟨rfl, rfl, s4, hs4, hM4⟩ := hp9
  have hm4 : mfr B [] [36] M3 M4 := hM4 ▸ (mfr.rf ⟨fs3, hO3, hF3⟩).upA (o := 36) rfl (by decide)
  have hE4 : mdE M4 B := hM4 ▸ hE3.upA (by decide)
  have e364 : fA M4 B 36 = s4 := by rw [← hM4]; exact fA_of (va_up_self _ _ _)
  obtain ⟨fs4, hO4, hF4⟩ := id hm4.2.1
  have hs4v : bg s4 0 9 = bg (fA M0 B 31) (9 * (128 * v + p)) 9 + wkN (bn_int (lf l) 68) := by rw [hs4, hsm, hwb]; exact Nat.mod_eq_of_lt hto
  have hm04 : mfr B [] [10, 11, 12, 13, 36] M0 M4 := (hm03.tr (hm4.mono rfl rfl))
  refine hz_iconst (pc := 197) (v := nI 0) (hz_dec kX12_register 109 rfl) (by decide) ?_
  refine hz_istore (pc := 198) (i := 6) (lo2 := [(6, .int (nI 0)), (5, .int (nI (128 * v + n))), (0, .ref B), (1, .int (nI v)), (2, .int pl), (3, .int (nI p)), (4, .int (nI n))]) (hz_dec kX12_register 110 rfl) (by decide) rfl ?_
  refine hz_pick (pc := 200) [0, 1, 2, 3, 4, 5, 6] rfl ?_
  refine c_reg2 hE4 h8 hz hv hn (fun M5 hm5 hE5 hg5 h315 h31o5 => ?_) 9 0 M4 rfl (by omega) (mfr.rf hm4.2.1) hE4 agV.rf (fun j hj => absurd hj (by omega)) (fun x _ => rfl)
  obtain ⟨fs5, hO5, hF5⟩ := id hm5.2.1
  have hm05 : mfr B [] [10, 11, 12, 13, 31, 36] M0 M5 := (hm04.mono rfl rfl).tr (hm5.mono rfl rfl)
  have g165 : fs5[16]? = some (.int (nI (bkN l))) := (fdB_of hO5 16).symm.trans ((hm05.2.2 16 rfl).trans h160)
  refine hz_aloadn (pc := 233) 1 (hz_dec kX12_register 128 rfl) rfl ?_
  refine hz_get (pc := 234) (v := .ref (B + 32)) (hz_dec kX12_register 129 rfl) fo_X12_107 hO5 h8 (by omega) (hF5.2 34 (by decide) (by decide)) ?_
  refine hz_iload (pc := 237) 0 (hz_dec kX12_register 130 rfl) rfl ?_
  refine hz_aloadn (pc := 239) 1 (hz_dec kX12_register 131 rfl) rfl ?_
  refine hz_get (pc := 240) (v := .int (nI (bkN l))) (hz_dec kX12_register 132 rfl) fo_X12_409 hO5 h8 (by omega) g165 ?_
  refine hz_iast (pc := 243) (j := 128 * v + n) (hz_dec kX12_register 133 rfl) hE5.a32 (by omega) (by omega) rfl (by omega) (by decide) ?_
  refine hz_iconst (pc := 244) (v := nI 0) (hz_dec kX12_register 134 rfl) (by decide) ?_
  refine hz_istore (pc := 245) (i := 6) (lo2 := [(6, .int (nI 0)), (5, .int (nI (128 * v + n))), (0, .ref B), (1, .int (nI v)), (2, .int pl), (3, .int (nI p)), (4, .int (nI n))]) (hz_dec kX12_register 135 rfl) (by decide) rfl ?_
  refine hz_pick (pc := 247) [0, 1, 2, 3, 4, 5, 6] rfl ?_
  have hm06 : mfr B [] [10, 11, 12, 13, 31, 32, 36] M0 (va_up M5 (B + 32) (.inl (0, 768, .inl (upd (fA M5 B 32) (128 * v + n) ((nI (bkN l))))))) := (hm05.mono rfl rfl).upA (o := 32) rfl (by decide)
  have hE6 : mdE (va_up M5 (B + 32) (.inl (0, 768, .inl (upd (fA M5 B 32) (128 * v + n) ((nI (bkN l))))))) B := hE5.upA (by decide)
  have hg6 : agV M0 (va_up M5 (B + 32) (.inl (0, 768, .inl (upd (fA M5 B 32) (128 * v + n) ((nI (bkN l))))))) B v := ((agV.mf hm04 rfl rfl).tr hg5).upA (s := 128) (by decide) (by decide) (fun x hx => upd_o (by omega))
  have e32 : fA (va_up M5 (B + 32) (.inl (0, 768, .inl (upd (fA M5 B 32) (128 * v + n) ((nI (bkN l))))))) B 32 = upd (fA M5 B 32) (128 * v + n) (nI (bkN l)) := fA_of (va_up_self _ _ _)
  have e31 : fA (va_up M5 (B + 32) (.inl (0, 768, .inl (upd (fA M5 B 32) (128 * v + n) ((nI (bkN l))))))) B 31 = fA M5 B 31 := fA_c (va_up_ne _ _ (by omega))
  generalize hM6 : (va_up M5 (B + 32) (.inl (0, 768, .inl (upd (fA M5 B 32) (128 * v + n) ((nI (bkN l))))))) = M6 at *
  refine c_reg3 (hk0.mf hm06 rfl rfl) hE6 hv hn hW (by rw [fA_m hm06 (by decide) rfl]; exact hA0) (by rw [fA_m hm06 (by decide) rfl]; exact h140) ((hm06.2.2 16 rfl).trans h160) (fun M7 hm7 hE7 hg7 h337 h33o7 => ?_) (bkN l) 0 M6 rfl (by omega) (mfr.rf hm06.2.1) hE6 agV.rf (fun j hj => absurd hj (by omega)) (fun x _ => rfl)
  have q31 : fA M7 B 31 = fA M5 B 31 := (fA_m hm7 (by decide) rfl).trans e31
  have q32 : fA M7 B 32 = fA M6 B 32 := fA_m hm7 (by decide) rfl
  have o31 : fA M4 B 31 = fA M0 B 31 := fA_m hm04 (by decide) rfl
  have o32 : fA M5 B 32 = fA M0 B 32 := fA_m hm05 (by decide) rfl
  have o33 : fL M6 B 33 = fL M0 B 33 := fL_c (hm06.at 33 (by decide) rfl)
  refine hP M7 ((hm06.mono rfl rfl).tr (hm7.mono rfl rfl)) hE7 (hg6.tr hg7) (by rw [q32, e32, upd_s]) (fun x hx => by rw [q32, e32, upd_o hx, o32]) ?_ (fun x hx => by rw [q31, h31o5 x hx, o31]) h337 (fun x hx => by rw [h33o7 x hx, o33])
  rw [q31, ← hs4v]
  exact bg_c 9 (fun j hj => by rw [h315 j hj, e364, Nat.zero_add])
set_option maxHeartbeats 4000000 in
set_option maxRecDepth 100000 in
theorem c_regA {κ : hz_C} {z : Nat} {M0 : hz_M} {B : Nat} (hk0 : md_k B M0 z) (hE0 : mdE M0 B) {v n : Nat} (hv : v < 6) (hn : n < 128) {l : by_L} (hW : blW l) (hA0 : isA (fA M0 B 35) 0 l) (h140 : ∀ j, j ≤ bkN l → fA M0 B 14 j = nI (bkS l j)) (h160 : fdB M0 B 16 = some (.int (nI (bkN l)))) {pl : Int32} {P : hz_P} (hRt : tgR (bn_int (lf l) 68) = true) (h29 : fA M0 B 29 (128 * v + n) = bn_int (lf l) 68) (hto : 0 + wkN (bn_int (lf l) 68) < 4294967296 ^ 9) (hP : ∀ M2, mfr B [] [3, 4, 5, 10, 11, 12, 13, 31, 32, 33, 36] M0 M2 → mdE M2 B → agV M0 M2 B v → fA M2 B 32 (128 * v + n) = nI (bkN l) → (∀ x, ¬ x = (128 * v + n) → fA M2 B 32 x = fA M0 B 32 x) → bg (fA M2 B 31) (9 * (128 * v + n)) 9 = 0 + wkN (bn_int (lf l) 68) → (∀ x, x < 9 * (128 * v + n) ∨ 9 * (128 * v + n) + 9 ≤ x → fA M2 B 31 x = fA M0 B 31 x) → (∀ j, j < bkN l → fL M2 B 33 (8 * (128 * v + n) + j) = idS (bkT l j)) → (∀ x, x < 8 * (128 * v + n) ∨ 8 * (128 * v + n) + 8 ≤ x → fL M2 B 33 x = fL M0 B 33 x) → P none z M2) : hz_W κ xX12_register 4 0 0 P 0 0 125 [(5, .int (nI (128 * v + n))), (0, .ref B), (1, .int (nI v)), (2, .int pl), (3, .int (-1)), (4, .int (nI n))] [] z M0 := by
  obtain ⟨⟨fs, hO, hF⟩, -, -, h8, hz⟩ := id hk0
  have r1 := (tgR_b hRt).1
  have r2 := (tgR_b hRt).2.1
  have r3 := (tgR_b hRt).2.2
  refine hz_aloadn (pc := 125) 1 (hz_dec kX12_register 72 rfl) rfl ?_
  refine hz_aloadn (pc := 126) 1 (hz_dec kX12_register 73 rfl) rfl ?_
  refine hz_get (pc := 127) (v := .ref (B + 29)) (hz_dec kX12_register 74 rfl) fo_X12_98 hO h8 (by omega) (hF.2 31 (by decide) (by decide)) ?_
  refine hz_iload (pc := 130) 0 (hz_dec kX12_register 75 rfl) rfl ?_
  refine hz_iald (pc := 132) (j := 128 * v + n) (hz_dec kX12_register 76 rfl) hE0.a29 (by omega) (by omega) rfl (by omega) (by decide) ?_
  refine hz_eqi (pc := 133) h29 ?_
  refine hz_callV (pc := 133) (a := B) (As := [.int (bn_int (lf l) 68)]) (st := []) (hz_dec kX12_register 77 rfl) co_X12_453 im_X12_findWork se_X12_findWork rfl hO h8 (by omega) (c_findWork hO hF h8 hz hE0.t (by omega) r2 r3) rfl (by decide) ⟨Nat.le_refl _, Nat.le_refl _⟩ (Nat.le_of_ble_eq_true rfl) rfl (fun r9 z9 M1 hp9 => ?_)
  obtain ⟨rfl, rfl, hf1, ht1, w1, hw1, hwb⟩ := hp9
  have hm1 : mfr B [] [10, 11, 12, 13] M0 M1 := mfr.ofl ⟨fs, hO, hF⟩ hf1 rfl
  have hE1 : mdE M1 B := hE0.ht hm1 ht1 rfl
  obtain ⟨fs1, hO1, hF1⟩ := id hm1.2.1
  refine hz_aloadn (pc := 136) 1 (hz_dec kX12_register 78 rfl) rfl ?_
  refine hz_get (pc := 137) (v := .ref (B + 36)) (hz_dec kX12_register 79 rfl) fo_X12_119 hO1 h8 (by omega) (hF1.2 40 (by decide) (by decide)) ?_
  refine hz_callS (pc := 140) (As := [.ref (B + 36)]) (st := []) (hz_dec kX12_register 80 rfl) co_X12_360 sc_X12_clearBig (c_clear hE1.a36 (by omega) (by omega)) rfl (by decide) ⟨Nat.le_refl _, Nat.le_refl _⟩ (Nat.le_of_ble_eq_true rfl) rfl (fun r9 z9 M2 hp9 => ?_)
  obtain ⟨rfl, rfl, s2, hs2, hM2⟩ := hp9
  have hm2 : mfr B [] [36] M1 M2 := hM2 ▸ (mfr.rf ⟨fs1, hO1, hF1⟩).upA (o := 36) rfl (by decide)
  have hE2 : mdE M2 B := hM2 ▸ hE1.upA (by decide)
  have e362 : fA M2 B 36 = s2 := by rw [← hM2]; exact fA_of (va_up_self _ _ _)
  obtain ⟨fs2, hO2, hF2⟩ := id hm2.2.1
  refine hz_iconst (pc := 143) (v := nI 0) (hz_dec kX12_register 81 rfl) (by decide) ?_
  refine hz_istore (pc := 144) (i := 6) (lo2 := [(6, .int (nI 0)), (5, .int (nI (128 * v + n))), (0, .ref B), (1, .int (nI v)), (2, .int pl), (3, .int (-1)), (4, .int (nI n))]) (hz_dec kX12_register 82 rfl) (by decide) rfl ?_
  refine hz_pick (pc := 146) [0, 1, 2, 3, 4, 5, 6] rfl ?_
  have hm23 : mfr B [] [36] M1 M2 := hm2
  have hm03 : mfr B [] [10, 11, 12, 13, 36] M0 M2 := (hm1.mono rfl rfl).tr (hm2.mono rfl rfl)
  have hE3 := hE2
  have hO3 := hO2
  have hF3 := hF2
  refine hz_iload (pc := 146) 0 (hz_dec kX12_register 83 rfl) rfl ?_
  refine hz_bipush (pc := 148) (v := nI 9) (hz_dec kX12_register 84 rfl) (by decide) ?_
  refine hz_n_ge (pc := 150) (tgt := 186) (hz_dec kX12_register 85 rfl) (by decide) (by omega) (by omega) (fun h1 => ?_) (fun h1 => ?_)
  · skip
    exact absurd h1 (by omega)
  · skip
    refine hz_iloadn (pc := 153) 5 (hz_dec kX12_register 86 rfl) rfl ?_
    refine hz_if_lt (pc := 154) (tgt := 186) (hz_dec kX12_register 87 rfl) (by decide) (fun h2 => ?_) (fun h2 => ?_)
    · skip
      refine hz_pick (pc := 186) [1, 2, 3, 4, 5, 6] rfl ?_
      refine hz_aloadn (pc := 186) 1 (hz_dec kX12_register 104 rfl) rfl ?_
      refine hz_get (pc := 187) (v := .ref (B + 36)) (hz_dec kX12_register 105 rfl) fo_X12_119 hO3 h8 (by omega) (hF3.2 40 (by decide) (by decide)) ?_
      refine hz_aloadn (pc := 190) 1 (hz_dec kX12_register 106 rfl) rfl ?_
      refine hz_get (pc := 191) (v := .ref (B + 12)) (hz_dec kX12_register 107 rfl) fo_X12_45 hO3 h8 (by omega) (hF3.2 13 (by decide) (by decide)) ?_
      have hw3 : M2 (B + 12) = .inl (0, 9, .inl w1) := (hm23.at 12 (by decide) rfl).trans hw1
      refine hz_callS (pc := 194) (As := [.ref (B + 36), .ref (B + 12)]) (st := []) (hz_dec kX12_register 108 rfl) co_X12_380 sc_X12_addBig (c_addB hE3.a36 (by omega) (by omega) hw3 (by omega) (by omega) (by omega)) rfl (by decide) ⟨Nat.le_refl _, Nat.le_refl _⟩ (Nat.le_of_ble_eq_true rfl) rfl (fun r9 z9 M4 hp9 => ?_)
      obtain ⟨rfl, rfl, s4, hs4, hM4⟩ := hp9
      have hm4 : mfr B [] [36] M2 M4 := hM4 ▸ (mfr.rf ⟨fs2, hO3, hF3⟩).upA (o := 36) rfl (by decide)
      have hE4 : mdE M4 B := hM4 ▸ hE3.upA (by decide)
      have e364 : fA M4 B 36 = s4 := by rw [← hM4]; exact fA_of (va_up_self _ _ _)
      obtain ⟨fs4, hO4, hF4⟩ := id hm4.2.1
      have hs4v : bg s4 0 9 = 0 + wkN (bn_int (lf l) 68) := by rw [hs4, e362, hs2, hwb]; exact Nat.mod_eq_of_lt hto
      have hm04 : mfr B [] [10, 11, 12, 13, 36] M0 M4 := (hm03.tr (hm4.mono rfl rfl))
      refine hz_iconst (pc := 197) (v := nI 0) (hz_dec kX12_register 109 rfl) (by decide) ?_
      refine hz_istore (pc := 198) (i := 6) (lo2 := [(6, .int (nI 0)), (5, .int (nI (128 * v + n))), (0, .ref B), (1, .int (nI v)), (2, .int pl), (3, .int (-1)), (4, .int (nI n))]) (hz_dec kX12_register 110 rfl) (by decide) rfl ?_
      refine hz_pick (pc := 200) [0, 1, 2, 3, 4, 5, 6] rfl ?_
      refine c_reg2 hE4 h8 hz hv hn (fun M5 hm5 hE5 hg5 h315 h31o5 => ?_) 9 0 M4 rfl (by omega) (mfr.rf hm4.2.1) hE4 agV.rf (fun j hj => absurd hj (by omega)) (fun x _ => rfl)
      obtain ⟨fs5, hO5, hF5⟩ := id hm5.2.1
      have hm05 : mfr B [] [10, 11, 12, 13, 31, 36] M0 M5 := (hm04.mono rfl rfl).tr (hm5.mono rfl rfl)
      have g165 : fs5[16]? = some (.int (nI (bkN l))) := (fdB_of hO5 16).symm.trans ((hm05.2.2 16 rfl).trans h160)
      refine hz_aloadn (pc := 233) 1 (hz_dec kX12_register 128 rfl) rfl ?_
      refine hz_get (pc := 234) (v := .ref (B + 32)) (hz_dec kX12_register 129 rfl) fo_X12_107 hO5 h8 (by omega) (hF5.2 34 (by decide) (by decide)) ?_
      refine hz_iload (pc := 237) 0 (hz_dec kX12_register 130 rfl) rfl ?_
      refine hz_aloadn (pc := 239) 1 (hz_dec kX12_register 131 rfl) rfl ?_
      refine hz_get (pc := 240) (v := .int (nI (bkN l))) (hz_dec kX12_register 132 rfl) fo_X12_409 hO5 h8 (by omega) g165 ?_
      refine hz_iast (pc := 243) (j := 128 * v + n) (hz_dec kX12_register 133 rfl) hE5.a32 (by omega) (by omega) rfl (by omega) (by decide) ?_
      refine hz_iconst (pc := 244) (v := nI 0) (hz_dec kX12_register 134 rfl) (by decide) ?_
      refine hz_istore (pc := 245) (i := 6) (lo2 := [(6, .int (nI 0)), (5, .int (nI (128 * v + n))), (0, .ref B), (1, .int (nI v)), (2, .int pl), (3, .int (-1)), (4, .int (nI n))]) (hz_dec kX12_register 135 rfl) (by decide) rfl ?_
      refine hz_pick (pc := 247) [0, 1, 2, 3, 4, 5, 6] rfl ?_
      have hm06 : mfr B [] [10, 11, 12, 13, 31, 32, 36] M0 (va_up M5 (B + 32) (.inl (0, 768, .inl (upd (fA M5 B 32) (128 * v + n) ((nI (bkN l))))))) := (hm05.mono rfl rfl).upA (o := 32) rfl (by decide)
      have hE6 : mdE (va_up M5 (B + 32) (.inl (0, 768, .inl (upd (fA M5 B 32) (128 * v + n) ((nI (bkN l))))))) B := hE5.upA (by decide)
      have hg6 : agV M0 (va_up M5 (B + 32) (.inl (0, 768, .inl (upd (fA M5 B 32) (128 * v + n) ((nI (bkN l))))))) B v := ((agV.mf hm04 rfl rfl).tr hg5).upA (s := 128) (by decide) (by decide) (fun x hx => upd_o (by omega))
      have e32 : fA (va_up M5 (B + 32) (.inl (0, 768, .inl (upd (fA M5 B 32) (128 * v + n) ((nI (bkN l))))))) B 32 = upd (fA M5 B 32) (128 * v + n) (nI (bkN l)) := fA_of (va_up_self _ _ _)
      have e31 : fA (va_up M5 (B + 32) (.inl (0, 768, .inl (upd (fA M5 B 32) (128 * v + n) ((nI (bkN l))))))) B 31 = fA M5 B 31 := fA_c (va_up_ne _ _ (by omega))
      generalize hM6 : (va_up M5 (B + 32) (.inl (0, 768, .inl (upd (fA M5 B 32) (128 * v + n) ((nI (bkN l))))))) = M6 at *
      refine c_reg3 (hk0.mf hm06 rfl rfl) hE6 hv hn hW (by rw [fA_m hm06 (by decide) rfl]; exact hA0) (by rw [fA_m hm06 (by decide) rfl]; exact h140) ((hm06.2.2 16 rfl).trans h160) (fun M7 hm7 hE7 hg7 h337 h33o7 => ?_) (bkN l) 0 M6 rfl (by omega) (mfr.rf hm06.2.1) hE6 agV.rf (fun j hj => absurd hj (by omega)) (fun x _ => rfl)
      have q31 : fA M7 B 31 = fA M5 B 31 := (fA_m hm7 (by decide) rfl).trans e31
      have q32 : fA M7 B 32 = fA M6 B 32 := fA_m hm7 (by decide) rfl
      have o31 : fA M4 B 31 = fA M0 B 31 := fA_m hm04 (by decide) rfl
      have o32 : fA M5 B 32 = fA M0 B 32 := fA_m hm05 (by decide) rfl
      have o33 : fL M6 B 33 = fL M0 B 33 := fL_c (hm06.at 33 (by decide) rfl)
      refine hP M7 ((hm06.mono rfl rfl).tr (hm7.mono rfl rfl)) hE7 (hg6.tr hg7) (by rw [q32, e32, upd_s]) (fun x hx => by rw [q32, e32, upd_o hx, o32]) ?_ (fun x hx => by rw [q31, h31o5 x hx, o31]) h337 (fun x hx => by rw [h33o7 x hx, o33])
      rw [q31, ← hs4v]
      exact bg_c 9 (fun j hj => by rw [h315 j hj, e364, Nat.zero_add])
    · skip
      exact absurd (by decide) h2
