/-! the reference: writeRecord -/
/-- the record is being put together: the place, the block -/
def rcI (g : Nat → Int32) (l : by_L) (p i : Nat) : Prop := g 0 = sb_b (p / 256 % 256) ∧ g 1 = sb_b (p % 256) ∧ ∀ j, j < i → g (2 + j) = lf l j
theorem sb_sh {p : Nat} (hp : p < 65536) : (nI p >>> (nI 8 &&& 31)).toInt8.toInt32.toInt8.toInt32 = sb_b (p / 256 % 256) ∧ (nI p).toInt8.toInt32.toInt8.toInt32 = sb_b (p % 256) := by
  refine ⟨sb_of ?_, sb_of (bb_nIm (by omega))⟩
  rw [bb_shr (nI p) (k := 8) (by decide), un_nI (by omega)]
set_option maxHeartbeats 4000000 in
set_option maxRecDepth 100000 in
theorem c_wrr4 {κ : hz_C} {z : Nat} {M0 : hz_M} {B : Nat} (hk0 : md_k B M0 z) (hE0 : mdE M0 B) {v nx : Nat} (hv : v < 6) {l : by_L} (hl9 : l.length ≤ 2945) (hA0 : isA (fA M0 B 35) 0 l) (h390 : fdB M0 B 39 = some (.int (nI l.length))) (h180 : fA M0 B 18 v = nI nx) (hrm : nx + l.length + 8 ≤ 12288) {dk : Nat → Int32} (hdk : ∀ j, j < 12288 → fA M0 B 17 (12288 * v + j) = dk j) {fz : Option Nat} (hfz : ∀ q, fz = some q → q < 2 ^ 31) (h190 : fA M0 B 19 v = pvI fz) (hok : fzO fz (l.length + 6) = true) : ∀ k i M, k = l.length + 6 - i → i ≤ l.length + 6 → mfr B [] [3, 4, 5, 16, 17, 19, 51, 58, 67, 68] M0 M → mdE M B → agV M0 M B v → fA M B 16 = fA M0 B 16 → fA M B 58 = fA M0 B 58 → fA M B 67 = fA M0 B 67 → fA M B 19 v = pvI (fzN fz (l.length + 6)) → (∀ j, j < 12288 → fA M B 17 (12288 * v + j) = dkW dk nx (rcS l nx) fz j) → isA (fA M B 68) 0 (rcS l nx) → (∀ j, j < i → fA M B 51 (12288 * v + nx + j) = lf (rcS l nx) j) → (∀ x, x < 12288 * v + nx ∨ 12288 * v + nx + (l.length + 6) ≤ x → fA M B 51 x = fA M0 B 51 x) → hz_W κ xX12_writeRecord 3 0 0 (fun r z2 M2 => some (.int (hz_b (fzO fz (l.length + 6)))) = r ∧ z = z2 ∧ mfr B [] [3, 4, 5, 16, 17, 19, 51, 58, 67, 68] M0 M2 ∧ mdE M2 B ∧ agV M0 M2 B v ∧ (∀ j, j < 12288 → fA M2 B 17 (12288 * v + j) = dkW dk nx (rcS l nx) fz j) ∧ (fzO fz (l.length + 6) = true → fA M2 B 16 = fA M0 B 16 ∧ fA M2 B 58 = fA M0 B 58 ∧ fA M2 B 67 = fA M0 B 67 ∧ fA M2 B 19 v = pvI (fzN fz (l.length + 6)) ∧ isA (fA M2 B 51) (12288 * v + nx) (rcS l nx) ∧ ∀ x, x < 12288 * v + nx ∨ 12288 * v + nx + (l.length + 6) ≤ x → fA M2 B 51 x = fA M0 B 51 x) ∧ (fzO fz (l.length + 6) = false → fA M2 B 51 = fA M0 B 51 ∧ fA M2 B 16 v = 0 ∧ fA M2 B 58 v = 0 ∧ fA M2 B 67 v = 0 ∧ fA M2 B 19 v = -1)) 0 0 254 [(5, .int (nI i)), (4, .int (nI (12288 * v + nx))), (3, .int (nI (l.length))), (2, .int (nI nx)), (0, .ref B), (1, .int (nI v))] [] z M := by
  intro k
  induction k using Nat.strongRecOn with
  | ind k ih =>
  intro i M hk hi hfr hE hag e16 e58 e67 e19 hd17 h68 h51 h51o
  obtain ⟨-, -, -, h8, hz⟩ := id hk0
  obtain ⟨fs, hO, hF⟩ := id hfr.2.1
  refine hz_bytes hE.a68 (by omega) (by omega) (fun hby => ?_)
  refine hz_iload (pc := 254) 0 (hz_dec kX12_writeRecord 161 rfl) rfl ?_
  refine hz_iloadn (pc := 256) 2 (hz_dec kX12_writeRecord 162 rfl) rfl ?_
  refine hz_bipush (pc := 257) (v := nI 6) (hz_dec kX12_writeRecord 163 rfl) (by decide) ?_
  refine hz_addN (pc := 259) (hz_dec kX12_writeRecord 164 rfl) ?_
  refine hz_n_ge (pc := 260) (tgt := 286) (hz_dec kX12_writeRecord 165 rfl) (by decide) (by omega) (by omega) (fun h1 => ?_) (fun h1 => ?_)
  · skip
    have e : i = l.length + 6 := by omega
    refine hz_iconst (pc := 286) (v := nI 1) (hz_dec kX12_writeRecord 178 rfl) (by decide) ?_
    exact hz_zret (pc := 287) (hz_dec kX12_writeRecord 179 rfl) rfl rfl ⟨by rw [hok]; rfl, rfl, hfr, hE, hag, hd17, fun _ => ⟨e16, e58, e67, e19, fun j hj => h51 j (by rw [rcS_len] at hj; omega), h51o⟩, fun q => (by rw [hok] at q; cases q)⟩
  · skip
    refine hz_aloadn (pc := 263) 4 (hz_dec kX12_writeRecord 166 rfl) rfl ?_
    refine hz_get (pc := 264) (v := .ref (B + 51)) (hz_dec kX12_writeRecord 167 rfl) fo_X12_171 hO h8 (by omega) (hF.2 58 (by decide) (by decide)) ?_
    refine hz_iload (pc := 267) 1 (hz_dec kX12_writeRecord 168 rfl) rfl ?_
    refine hz_iload (pc := 269) 0 (hz_dec kX12_writeRecord 169 rfl) rfl ?_
    refine hz_addN (pc := 271) (hz_dec kX12_writeRecord 170 rfl) ?_
    refine hz_aloadn (pc := 272) 4 (hz_dec kX12_writeRecord 171 rfl) rfl ?_
    refine hz_get (pc := 273) (v := .ref (B + 68)) (hz_dec kX12_writeRecord 172 rfl) fo_X12_224 hO h8 (by omega) (hF.2 77 (by decide) (by decide)) ?_
    refine hz_iload (pc := 276) 0 (hz_dec kX12_writeRecord 173 rfl) rfl ?_
    refine hz_bald (pc := 278) (j := i) (hz_dec kX12_writeRecord 174 rfl) hE.a68 (by omega) (by omega) rfl (by omega) (by decide) ?_
    refine hz_bast (pc := 279) (j := (12288 * v + nx) + i) (hz_dec kX12_writeRecord 175 rfl) hE.a51 (by omega) (by omega) rfl (by omega) (by decide) ?_
    refine hz_incN (pc := 280) (i := 5) (lo2 := [(5, .int (nI (i + 1))), (4, .int (nI (12288 * v + nx))), (3, .int (nI (l.length))), (2, .int (nI nx)), (0, .ref B), (1, .int (nI v))]) 0 (hz_dec kX12_writeRecord 176 rfl) rfl (by decide) rfl ?_
    refine hz_goto (pc := 283) (tgt := 254) (hz_dec kX12_writeRecord 177 rfl) (by decide) ?_
    refine hz_pick (pc := 254) [0, 1, 2, 3, 4, 5] rfl ?_
    have e9 : ∀ o, ¬ o = 51 → fA (va_up M (B + 51) (.inl (1, 73728, .inl (upd (fA M B 51) ((12288 * v + nx) + i) (((fA M B 68) i).toInt8.toInt32))))) B o = fA M B o := fun o ho => fA_c (va_up_ne _ _ (by omega))
    refine ih (l.length + 6 - (i + 1)) (by omega) (i + 1) _ rfl (by omega) (hfr.upA (o := 51) rfl (by decide)) (hE.upA (by decide)) (hag.upA (s := 12288) (by decide) (by decide) (fun x hx => upd_o (by omega))) ((e9 16 (by decide)).trans e16) ((e9 58 (by decide)).trans e58) ((e9 67 (by decide)).trans e67) (by rw [e9 19 (by decide)]; exact e19) (by rw [e9 17 (by decide)]; exact hd17) (by rw [e9 68 (by decide)]; exact h68) ?_ ?_
    · rw [fA_of (va_up_self _ _ _)]
      intro j hj
      rcases (show j = i ∨ j < i by omega) with e | c
      · rw [e, upd_s, hby _ (by omega)]; have q := h68 i (by rw [rcS_len]; omega); rw [Nat.zero_add] at q; exact q
      · rw [upd_o (by omega)]; exact h51 j c
    · rw [fA_of (va_up_self _ _ _)]
      intro x hx
      rw [upd_o (by omega)]
      exact h51o x hx
set_option maxHeartbeats 4000000 in
set_option maxRecDepth 100000 in
theorem c_wrr3 {κ : hz_C} {z : Nat} {M0 : hz_M} {B : Nat} (hk0 : md_k B M0 z) (hE0 : mdE M0 B) {v nx : Nat} (hv : v < 6) {l : by_L} (hl9 : l.length ≤ 2945) (hA0 : isA (fA M0 B 35) 0 l) (h390 : fdB M0 B 39 = some (.int (nI l.length))) (h180 : fA M0 B 18 v = nI nx) (hrm : nx + l.length + 8 ≤ 12288) {dk : Nat → Int32} (hdk : ∀ j, j < 12288 → fA M0 B 17 (12288 * v + j) = dk j) {fz : Option Nat} (hfz : ∀ q, fz = some q → q < 2 ^ 31) (h190 : fA M0 B 19 v = pvI fz) : ∀ k m M, k + m = l.length + 6 → m ≤ fzM fz (l.length + 6) → mfr B [] [3, 4, 5, 16, 17, 19, 51, 58, 67, 68] M0 M → mdE M B → agV M0 M B v → fA M B 16 = fA M0 B 16 → fA M B 58 = fA M0 B 58 → fA M B 67 = fA M0 B 67 → fA M B 51 = fA M0 B 51 → fA M B 19 v = pvI (fzN fz m) → (∀ j, j < 12288 → fA M B 17 (12288 * v + j) = dkR (dkZ dk nx (l.length + 6)) nx (rcS l nx) m j) → isA (fA M B 68) 0 (rcS l nx) → hz_W κ xX12_writeRecord 3 0 0 (fun r z2 M2 => some (.int (hz_b (fzO fz (l.length + 6)))) = r ∧ z = z2 ∧ mfr B [] [3, 4, 5, 16, 17, 19, 51, 58, 67, 68] M0 M2 ∧ mdE M2 B ∧ agV M0 M2 B v ∧ (∀ j, j < 12288 → fA M2 B 17 (12288 * v + j) = dkW dk nx (rcS l nx) fz j) ∧ (fzO fz (l.length + 6) = true → fA M2 B 16 = fA M0 B 16 ∧ fA M2 B 58 = fA M0 B 58 ∧ fA M2 B 67 = fA M0 B 67 ∧ fA M2 B 19 v = pvI (fzN fz (l.length + 6)) ∧ isA (fA M2 B 51) (12288 * v + nx) (rcS l nx) ∧ ∀ x, x < 12288 * v + nx ∨ 12288 * v + nx + (l.length + 6) ≤ x → fA M2 B 51 x = fA M0 B 51 x) ∧ (fzO fz (l.length + 6) = false → fA M2 B 51 = fA M0 B 51 ∧ fA M2 B 16 v = 0 ∧ fA M2 B 58 v = 0 ∧ fA M2 B 67 v = 0 ∧ fA M2 B 19 v = -1)) 0 0 184 [(5, .int (nI k - 1)), (4, .int (nI (12288 * v + nx))), (3, .int (nI (l.length))), (2, .int (nI nx)), (0, .ref B), (1, .int (nI v))] [] z M := by
  intro k
  induction k with
  | zero =>
    intro m M hkm hm hfr hE hag e16 e58 e67 e51 e19 hd17 h68
    obtain ⟨-, -, -, h8, hz⟩ := id hk0
    obtain ⟨fs, hO, hF⟩ := id hfr.2.1
    have em : m = l.length + 6 := by omega
    have eo : fzM fz (l.length + 6) = (l.length + 6) := by
      cases fz with
      | none => rfl
      | some q => have q1 : m ≤ min (l.length + 6) q := hm; show min (l.length + 6) q = (l.length + 6); omega
    have eO : fzO fz (l.length + 6) = true := decide_eq_true eo
    refine hz_iload (pc := 184) 0 (hz_dec kX12_writeRecord 120 rfl) rfl ?_
    refine hz_if_lt (pc := 186) (tgt := 251) (hz_dec kX12_writeRecord 121 rfl) (by decide) (fun q1 => ?_) (fun q1 => ?_)
    · skip
      refine hz_iconst (pc := 251) (v := nI 0) (hz_dec kX12_writeRecord 159 rfl) (by decide) ?_
      refine hz_istore (pc := 252) (i := 5) (lo2 := [(5, .int (nI 0)), (4, .int (nI (12288 * v + nx))), (3, .int (nI (l.length))), (2, .int (nI nx)), (0, .ref B), (1, .int (nI v))]) (hz_dec kX12_writeRecord 160 rfl) (by decide) rfl ?_
      refine hz_pick (pc := 254) [0, 1, 2, 3, 4, 5] rfl ?_
      refine c_wrr4 hk0 hE0 hv hl9 hA0 h390 h180 hrm hdk hfz h190 eO (l.length + 6) 0 M rfl (by omega) hfr hE hag e16 e58 e67 (by rw [e19, em]) (fun j hj => ?_) h68 (fun j hj => absurd hj (by omega)) (fun x _ => by rw [e51])
      rw [hd17 j hj, em]
      unfold dkW
      rw [rcS_len, eo]
    · skip
      exact absurd (by decide) q1
  | succ k ih =>
    intro m M hkm hm hfr hE hag e16 e58 e67 e51 e19 hd17 h68
    rw [nI_pred]
    obtain ⟨-, -, -, h8, hz⟩ := id hk0
    obtain ⟨fs, hO, hF⟩ := id hfr.2.1
    refine hz_bytes hE.a68 (by omega) (by omega) (fun hby => ?_)
    refine hz_iload (pc := 184) 0 (hz_dec kX12_writeRecord 120 rfl) rfl ?_
    refine hz_z_lt (pc := 186) (tgt := 251) (hz_dec kX12_writeRecord 121 rfl) (by decide) (by omega) ?_
    refine hz_aloadn (pc := 189) 4 (hz_dec kX12_writeRecord 122 rfl) rfl ?_
    refine hz_get (pc := 190) (v := .ref (B + 19)) (hz_dec kX12_writeRecord 123 rfl) fo_X12_68 hO h8 (by omega) (hF.2 21 (by decide) (by decide)) ?_
    refine hz_iloadn (pc := 193) 5 (hz_dec kX12_writeRecord 124 rfl) rfl ?_
    refine hz_iald (pc := 194) (j := v) (hz_dec kX12_writeRecord 125 rfl) hE.a19 (by omega) (by omega) rfl (by omega) (by decide) ?_
    refine hz_eqi (pc := 195) e19 ?_
    cases hfe : fz with
    | none =>
      subst hfe
      refine hz_eqi (pc := 195) (show _ = (-1 : Int32) from rfl) ?_
      refine hz_if_ne (pc := 195) (tgt := 205) (hz_dec kX12_writeRecord 126 rfl) (by decide) (fun h2 => ?_) (fun h2 => ?_)
      · skip
        refine hz_aloadn (pc := 205) 4 (hz_dec kX12_writeRecord 132 rfl) rfl ?_
        refine hz_get (pc := 206) (v := .ref (B + 19)) (hz_dec kX12_writeRecord 133 rfl) fo_X12_68 hO h8 (by omega) (hF.2 21 (by decide) (by decide)) ?_
        refine hz_iloadn (pc := 209) 5 (hz_dec kX12_writeRecord 134 rfl) rfl ?_
        refine hz_dup2 (pc := 210) (hz_dec kX12_writeRecord 135 rfl) rfl rfl ?_
        refine hz_iald (pc := 211) (j := v) (hz_dec kX12_writeRecord 136 rfl) hE.a19 (by omega) (by omega) rfl (by omega) (by decide) ?_
        refine hz_eqi (pc := 212) (show _ = (-1 : Int32) from e19.trans rfl) ?_
        refine hz_aloadn (pc := 212) 4 (hz_dec kX12_writeRecord 137 rfl) rfl ?_
        refine hz_get (pc := 213) (v := .ref (B + 19)) (hz_dec kX12_writeRecord 138 rfl) fo_X12_68 hO h8 (by omega) (hF.2 21 (by decide) (by decide)) ?_
        refine hz_iloadn (pc := 216) 5 (hz_dec kX12_writeRecord 139 rfl) rfl ?_
        refine hz_iald (pc := 217) (j := v) (hz_dec kX12_writeRecord 140 rfl) hE.a19 (by omega) (by omega) rfl (by omega) (by decide) ?_
        refine hz_eqi (pc := 218) (show _ = (-1 : Int32) from e19.trans rfl) ?_
        refine hz_if_le (pc := 218) (tgt := 225) (hz_dec kX12_writeRecord 141 rfl) (by decide) (fun h3 => ?_) (fun h3 => ?_)
        · skip
          refine hz_iconst (pc := 225) (v := nI 0) (hz_dec kX12_writeRecord 144 rfl) (by decide) ?_
          refine hz_isub (pc := 226) (hz_dec kX12_writeRecord 145 rfl) ?_
          refine hz_iast (pc := 227) (j := v) (hz_dec kX12_writeRecord 146 rfl) hE.a19 (by omega) (by omega) rfl (by omega) (by decide) ?_
          refine hz_aloadn (pc := 228) 4 (hz_dec kX12_writeRecord 147 rfl) rfl ?_
          refine hz_get (pc := 229) (v := .ref (B + 17)) (hz_dec kX12_writeRecord 148 rfl) fo_X12_62 (hz_mne hO (by omega)) h8 (by omega) (hF.2 19 (by decide) (by decide)) ?_
          refine hz_iload (pc := 232) 1 (hz_dec kX12_writeRecord 149 rfl) rfl ?_
          refine hz_iload (pc := 234) 0 (hz_dec kX12_writeRecord 150 rfl) rfl ?_
          refine hz_addN (pc := 236) (hz_dec kX12_writeRecord 151 rfl) ?_
          refine hz_aloadn (pc := 237) 4 (hz_dec kX12_writeRecord 152 rfl) rfl ?_
          refine hz_get (pc := 238) (v := .ref (B + 68)) (hz_dec kX12_writeRecord 153 rfl) fo_X12_224 (hz_mne hO (by omega)) h8 (by omega) (hF.2 77 (by decide) (by decide)) ?_
          refine hz_iload (pc := 241) 0 (hz_dec kX12_writeRecord 154 rfl) rfl ?_
          refine hz_bald (pc := 243) (j := k) (hz_dec kX12_writeRecord 155 rfl) (hz_mne hE.a68 (by omega)) (by omega) (by omega) rfl (by omega) (by decide) ?_
          refine hz_bast (pc := 244) (j := (12288 * v + nx) + k) (hz_dec kX12_writeRecord 156 rfl) (hz_mne hE.a17 (by omega)) (by omega) (by omega) rfl (by omega) (by decide) ?_
          refine hz_iinc (pc := 245) (i := 5) (w := nI k - 1) (lo2 := [(5, .int (nI k - 1)), (4, .int (nI (12288 * v + nx))), (3, .int (nI (l.length))), (2, .int (nI nx)), (0, .ref B), (1, .int (nI v))]) 0 (hz_dec kX12_writeRecord 157 rfl) rfl (hz_m1 _) (by decide) rfl ?_
          refine hz_goto (pc := 248) (tgt := 184) (hz_dec kX12_writeRecord 158 rfl) (by decide) ?_
          refine hz_pick (pc := 184) [0, 1, 2, 3, 4, 5] rfl ?_
          have e9 : ∀ o, ¬ o = 17 → ¬ o = 19 → fA (va_up (va_up M (B + 19) (.inl (0, 6, .inl (upd (fA M B 19) v ((((-1)) - (nI (0)))))))) (B + 17) (.inl (1, 73728, .inl (upd (fA M B 17) ((12288 * v + nx) + k) (((fA M B 68) k).toInt8.toInt32))))) B o = fA M B o := fun o h1 h2 => fA_c (hz_mne (hz_mne rfl (by omega)) (by omega))
          have p17 : (va_up (va_up M (B + 19) (.inl (0, 6, .inl (upd (fA M B 19) v ((((-1)) - (nI (0)))))))) (B + 17) (.inl (1, 73728, .inl (upd (fA M B 17) ((12288 * v + nx) + k) (((fA M B 68) k).toInt8.toInt32))))) (B + 17) = .inl (1, 73728, .inl (upd (fA M B 17) ((12288 * v + nx) + k) (((fA M B 68) k).toInt8.toInt32))) := (va_up_self _ _ _)
          have p19 : (va_up (va_up M (B + 19) (.inl (0, 6, .inl (upd (fA M B 19) v ((((-1)) - (nI (0)))))))) (B + 17) (.inl (1, 73728, .inl (upd (fA M B 17) ((12288 * v + nx) + k) (((fA M B 68) k).toInt8.toInt32))))) (B + 19) = .inl (0, 6, .inl (upd (fA M B 19) v ((((-1)) - (nI (0)))))) := (hz_mne (va_up_self _ _ _) (by omega))
          refine ih (m + 1) _ (by omega) (show m + 1 ≤ (l.length + 6) by omega) ((hfr.upA (o := 19) rfl (by decide)).upA (o := 17) rfl (by decide)) ((hE.upA (by decide)).upA (by decide)) ((hag.upA (s := 1) (by decide) (by decide) (fun x hx => upd_o (by omega))).upA (s := 12288) (by decide) (by decide) (fun x hx => (upd_o (by omega)).trans (by rw [fA_c (hz_mne rfl (by omega))]))) ((e9 16 (by decide) (by decide)).trans e16) ((e9 58 (by decide) (by decide)).trans e58) ((e9 67 (by decide) (by decide)).trans e67) ((e9 51 (by decide) (by decide)).trans e51) ?_ ?_ (by rw [e9 68 (by decide) (by decide)]; exact h68)
          · rw [fA_of p19, upd_s]; exact (by decide : (-1 : Int32) - nI 0 = -1)
          · rw [fA_of p17]
            intro j hj
            have q := dkR_st (g := fun j => fA M B 17 (12288 * v + j)) (v := lf (rcS l nx) k) (by rw [rcS_len]; omega) hd17 rfl j hj
            rw [← q]
            simp only [upd]
            by_cases c : j = nx + k
            · rw [if_pos (by omega), if_pos c, hby _ (by omega)]; have r := h68 k (by rw [rcS_len]; omega); rw [Nat.zero_add] at r; exact r
            · rw [if_neg (by omega), if_neg c]
        · skip
          exact absurd (by decide) h3
      · skip
        exact absurd h2 (by decide)
    | some q =>
      subst hfe
      have hq := hfz q rfl
      have hmq : m ≤ min (l.length + 6) q := hm
      refine hz_eqi (pc := 195) (show _ = nI (q - m) from rfl) ?_
      refine hz_z_ne (pc := 195) (tgt := 205) (hz_dec kX12_writeRecord 126 rfl) (by decide) (by omega) (fun h2 => ?_) (fun h2 => ?_)
      · skip
        refine hz_aloadn (pc := 205) 4 (hz_dec kX12_writeRecord 132 rfl) rfl ?_
        refine hz_get (pc := 206) (v := .ref (B + 19)) (hz_dec kX12_writeRecord 133 rfl) fo_X12_68 hO h8 (by omega) (hF.2 21 (by decide) (by decide)) ?_
        refine hz_iloadn (pc := 209) 5 (hz_dec kX12_writeRecord 134 rfl) rfl ?_
        refine hz_dup2 (pc := 210) (hz_dec kX12_writeRecord 135 rfl) rfl rfl ?_
        refine hz_iald (pc := 211) (j := v) (hz_dec kX12_writeRecord 136 rfl) hE.a19 (by omega) (by omega) rfl (by omega) (by decide) ?_
        refine hz_eqi (pc := 212) (show _ = nI (q - m) from e19.trans rfl) ?_
        refine hz_aloadn (pc := 212) 4 (hz_dec kX12_writeRecord 137 rfl) rfl ?_
        refine hz_get (pc := 213) (v := .ref (B + 19)) (hz_dec kX12_writeRecord 138 rfl) fo_X12_68 hO h8 (by omega) (hF.2 21 (by decide) (by decide)) ?_
        refine hz_iloadn (pc := 216) 5 (hz_dec kX12_writeRecord 139 rfl) rfl ?_
        refine hz_iald (pc := 217) (j := v) (hz_dec kX12_writeRecord 140 rfl) hE.a19 (by omega) (by omega) rfl (by omega) (by decide) ?_
        refine hz_eqi (pc := 218) (show _ = nI (q - m) from e19.trans rfl) ?_
        refine hz_z_le (pc := 218) (tgt := 225) (hz_dec kX12_writeRecord 141 rfl) (by decide) (by omega) (fun h3 => ?_) (fun h3 => ?_)
        · skip
          exact absurd h3 (by omega)
        · skip
          refine hz_iconst (pc := 221) (v := nI 1) (hz_dec kX12_writeRecord 142 rfl) (by decide) ?_
          refine hz_goto (pc := 222) (tgt := 226) (hz_dec kX12_writeRecord 143 rfl) (by decide) ?_
          refine hz_subN (pc := 226) (hz_dec kX12_writeRecord 145 rfl) (by omega) ?_
          refine hz_iast (pc := 227) (j := v) (hz_dec kX12_writeRecord 146 rfl) hE.a19 (by omega) (by omega) rfl (by omega) (by decide) ?_
          refine hz_aloadn (pc := 228) 4 (hz_dec kX12_writeRecord 147 rfl) rfl ?_
          refine hz_get (pc := 229) (v := .ref (B + 17)) (hz_dec kX12_writeRecord 148 rfl) fo_X12_62 (hz_mne hO (by omega)) h8 (by omega) (hF.2 19 (by decide) (by decide)) ?_
          refine hz_iload (pc := 232) 1 (hz_dec kX12_writeRecord 149 rfl) rfl ?_
          refine hz_iload (pc := 234) 0 (hz_dec kX12_writeRecord 150 rfl) rfl ?_
          refine hz_addN (pc := 236) (hz_dec kX12_writeRecord 151 rfl) ?_
          refine hz_aloadn (pc := 237) 4 (hz_dec kX12_writeRecord 152 rfl) rfl ?_
          refine hz_get (pc := 238) (v := .ref (B + 68)) (hz_dec kX12_writeRecord 153 rfl) fo_X12_224 (hz_mne hO (by omega)) h8 (by omega) (hF.2 77 (by decide) (by decide)) ?_
          refine hz_iload (pc := 241) 0 (hz_dec kX12_writeRecord 154 rfl) rfl ?_
          refine hz_bald (pc := 243) (j := k) (hz_dec kX12_writeRecord 155 rfl) (hz_mne hE.a68 (by omega)) (by omega) (by omega) rfl (by omega) (by decide) ?_
          refine hz_bast (pc := 244) (j := (12288 * v + nx) + k) (hz_dec kX12_writeRecord 156 rfl) (hz_mne hE.a17 (by omega)) (by omega) (by omega) rfl (by omega) (by decide) ?_
          refine hz_iinc (pc := 245) (i := 5) (w := nI k - 1) (lo2 := [(5, .int (nI k - 1)), (4, .int (nI (12288 * v + nx))), (3, .int (nI (l.length))), (2, .int (nI nx)), (0, .ref B), (1, .int (nI v))]) 0 (hz_dec kX12_writeRecord 157 rfl) rfl (hz_m1 _) (by decide) rfl ?_
          refine hz_goto (pc := 248) (tgt := 184) (hz_dec kX12_writeRecord 158 rfl) (by decide) ?_
          refine hz_pick (pc := 184) [0, 1, 2, 3, 4, 5] rfl ?_
          have e9 : ∀ o, ¬ o = 17 → ¬ o = 19 → fA (va_up (va_up M (B + 19) (.inl (0, 6, .inl (upd (fA M B 19) v ((nI ((q - m) - 1))))))) (B + 17) (.inl (1, 73728, .inl (upd (fA M B 17) ((12288 * v + nx) + k) (((fA M B 68) k).toInt8.toInt32))))) B o = fA M B o := fun o h1 h2 => fA_c (hz_mne (hz_mne rfl (by omega)) (by omega))
          have p17 : (va_up (va_up M (B + 19) (.inl (0, 6, .inl (upd (fA M B 19) v ((nI ((q - m) - 1))))))) (B + 17) (.inl (1, 73728, .inl (upd (fA M B 17) ((12288 * v + nx) + k) (((fA M B 68) k).toInt8.toInt32))))) (B + 17) = .inl (1, 73728, .inl (upd (fA M B 17) ((12288 * v + nx) + k) (((fA M B 68) k).toInt8.toInt32))) := (va_up_self _ _ _)
          have p19 : (va_up (va_up M (B + 19) (.inl (0, 6, .inl (upd (fA M B 19) v ((nI ((q - m) - 1))))))) (B + 17) (.inl (1, 73728, .inl (upd (fA M B 17) ((12288 * v + nx) + k) (((fA M B 68) k).toInt8.toInt32))))) (B + 19) = .inl (0, 6, .inl (upd (fA M B 19) v ((nI ((q - m) - 1))))) := (hz_mne (va_up_self _ _ _) (by omega))
          refine ih (m + 1) _ (by omega) (show m + 1 ≤ min (l.length + 6) q by omega) ((hfr.upA (o := 19) rfl (by decide)).upA (o := 17) rfl (by decide)) ((hE.upA (by decide)).upA (by decide)) ((hag.upA (s := 1) (by decide) (by decide) (fun x hx => upd_o (by omega))).upA (s := 12288) (by decide) (by decide) (fun x hx => (upd_o (by omega)).trans (by rw [fA_c (hz_mne rfl (by omega))]))) ((e9 16 (by decide) (by decide)).trans e16) ((e9 58 (by decide) (by decide)).trans e58) ((e9 67 (by decide) (by decide)).trans e67) ((e9 51 (by decide) (by decide)).trans e51) ?_ ?_ (by rw [e9 68 (by decide) (by decide)]; exact h68)
          · rw [fA_of p19, upd_s]; show nI (q - m - 1) = nI (q - (m + 1)); rw [show q - m - 1 = q - (m + 1) by omega]
          · rw [fA_of p17]
            intro j hj
            have q := dkR_st (g := fun j => fA M B 17 (12288 * v + j)) (v := lf (rcS l nx) k) (by rw [rcS_len]; omega) hd17 rfl j hj
            rw [← q]
            simp only [upd]
            by_cases c : j = nx + k
            · rw [if_pos (by omega), if_pos c, hby _ (by omega)]; have r := h68 k (by rw [rcS_len]; omega); rw [Nat.zero_add] at r; exact r
            · rw [if_neg (by omega), if_neg c]
      · skip
        have eO : fzO (some q) (l.length + 6) = false := decide_eq_false (fun c => by have c2 : min (l.length + 6) q = (l.length + 6) := c; omega)
        have eM : fzM (some q) (l.length + 6) = m := by show min (l.length + 6) q = m; omega
        refine hz_aloadn (pc := 198) 4 (hz_dec kX12_writeRecord 127 rfl) rfl ?_
        refine hz_iloadn (pc := 199) 5 (hz_dec kX12_writeRecord 128 rfl) rfl ?_
        refine hz_callV (pc := 200) (a := B) (As := [.int (nI v)]) (st := []) (hz_dec kX12_writeRecord 129 rfl) co_X12_588 im_X12_goDown se_X12_goDown rfl hO h8 (by omega) (c_goDown ⟨fs, hO, hF⟩ hE h8 hz hv) rfl (by decide) ⟨Nat.le_refl _, Nat.le_refl _⟩ (Nat.le_of_ble_eq_true rfl) rfl (fun r9 z9 M1 hp9 => ?_)
        obtain ⟨rfl, rfl, hf1, hE1, k16, k58, k67, k19, hg1⟩ := hp9
        refine hz_iconst (pc := 203) (v := nI 0) (hz_dec kX12_writeRecord 130 rfl) (by decide) ?_
        refine hz_zret (pc := 204) (hz_dec kX12_writeRecord 131 rfl) rfl rfl ⟨by rw [eO]; rfl, rfl, hfr.tr (hf1.mono rfl rfl), hE1, hag.tr hg1, fun j hj => ?_, fun q9 => (by rw [eO] at q9; cases q9), fun _ => ⟨(fA_m hf1 (by decide) rfl).trans e51, k16, k58, k67, k19⟩⟩
        rw [fA_m hf1 (by decide) rfl, hd17 j hj]
        unfold dkW
        rw [rcS_len, eM]
set_option maxHeartbeats 4000000 in
set_option maxRecDepth 100000 in
theorem c_wrr2 {κ : hz_C} {z : Nat} {M0 : hz_M} {B : Nat} (hk0 : md_k B M0 z) (hE0 : mdE M0 B) {v nx : Nat} (hv : v < 6) {l : by_L} (hl9 : l.length ≤ 2945) (hA0 : isA (fA M0 B 35) 0 l) (h390 : fdB M0 B 39 = some (.int (nI l.length))) (h180 : fA M0 B 18 v = nI nx) (hrm : nx + l.length + 8 ≤ 12288) {dk : Nat → Int32} (hdk : ∀ j, j < 12288 → fA M0 B 17 (12288 * v + j) = dk j) {fz : Option Nat} (hfz : ∀ q, fz = some q → q < 2 ^ 31) (h190 : fA M0 B 19 v = pvI fz) : ∀ k i M, k = 4 - i → i ≤ 4 → mfr B [] [3, 4, 5, 16, 17, 19, 51, 58, 67, 68] M0 M → mdE M B → agV M0 M B v → fA M B 16 = fA M0 B 16 → fA M B 58 = fA M0 B 58 → fA M B 67 = fA M0 B 67 → fA M B 51 = fA M0 B 51 → fA M B 19 = fA M0 B 19 → fA M B 17 = fA M0 B 17 → (∀ j, j < 32 → fA M B 5 j = sh_dg (shS (slS l nx)) j) → (∀ j, j < l.length + 2 + i → fA M B 68 j = lf (rcS l nx) j) → hz_W κ xX12_writeRecord 3 0 0 (fun r z2 M2 => some (.int (hz_b (fzO fz (l.length + 6)))) = r ∧ z = z2 ∧ mfr B [] [3, 4, 5, 16, 17, 19, 51, 58, 67, 68] M0 M2 ∧ mdE M2 B ∧ agV M0 M2 B v ∧ (∀ j, j < 12288 → fA M2 B 17 (12288 * v + j) = dkW dk nx (rcS l nx) fz j) ∧ (fzO fz (l.length + 6) = true → fA M2 B 16 = fA M0 B 16 ∧ fA M2 B 58 = fA M0 B 58 ∧ fA M2 B 67 = fA M0 B 67 ∧ fA M2 B 19 v = pvI (fzN fz (l.length + 6)) ∧ isA (fA M2 B 51) (12288 * v + nx) (rcS l nx) ∧ ∀ x, x < 12288 * v + nx ∨ 12288 * v + nx + (l.length + 6) ≤ x → fA M2 B 51 x = fA M0 B 51 x) ∧ (fzO fz (l.length + 6) = false → fA M2 B 51 = fA M0 B 51 ∧ fA M2 B 16 v = 0 ∧ fA M2 B 58 v = 0 ∧ fA M2 B 67 v = 0 ∧ fA M2 B 19 v = -1)) 0 0 96 [(4, .int (nI i)), (3, .int (nI (l.length))), (2, .int (nI nx)), (0, .ref B), (1, .int (nI v))] [] z M := by
  intro k
  induction k using Nat.strongRecOn with
  | ind k ih =>
  intro i M hk hi hfr hE hag e16 e58 e67 e51 e19 e17 h5 h68
  obtain ⟨-, -, -, h8, hz⟩ := id hk0
  obtain ⟨fs, hO, hF⟩ := id hfr.2.1
  refine hz_bytes hE.a5 (by omega) (by omega) (fun hby => ?_)
  refine hz_iload (pc := 96) 0 (hz_dec kX12_writeRecord 63 rfl) rfl ?_
  refine hz_iconst (pc := 98) (v := nI 4) (hz_dec kX12_writeRecord 64 rfl) (by decide) ?_
  refine hz_n_ge (pc := 99) (tgt := 126) (hz_dec kX12_writeRecord 65 rfl) (by decide) (by omega) (by omega) (fun h1 => ?_) (fun h1 => ?_)
  · skip
    have e : i = 4 := by omega
    refine hz_sipush (pc := 126) (v := nI 12288) (hz_dec kX12_writeRecord 80 rfl) (by decide) ?_
    refine hz_iloadn (pc := 129) 4 (hz_dec kX12_writeRecord 81 rfl) rfl ?_
    refine hz_mulN (pc := 130) (hz_dec kX12_writeRecord 82 rfl) ?_
    refine hz_iloadn (pc := 131) 2 (hz_dec kX12_writeRecord 83 rfl) rfl ?_
    refine hz_addN (pc := 132) (hz_dec kX12_writeRecord 84 rfl) ?_
    refine hz_istore (pc := 133) (i := 4) (lo2 := [(4, .int (nI ((12288 * v) + nx))), (3, .int (nI (l.length))), (2, .int (nI nx)), (0, .ref B), (1, .int (nI v))]) (hz_dec kX12_writeRecord 85 rfl) (by decide) rfl ?_
    refine hz_aloadn (pc := 135) 3 (hz_dec kX12_writeRecord 86 rfl) rfl ?_
    refine hz_get (pc := 136) (v := .ref (B + 17)) (hz_dec kX12_writeRecord 87 rfl) fo_X12_62 hO h8 (by omega) (hF.2 19 (by decide) (by decide)) ?_
    refine hz_iload (pc := 139) 0 (hz_dec kX12_writeRecord 88 rfl) rfl ?_
    refine hz_iloadn (pc := 141) 1 (hz_dec kX12_writeRecord 89 rfl) rfl ?_
    refine hz_addN (pc := 142) (hz_dec kX12_writeRecord 90 rfl) ?_
    refine hz_bipush (pc := 143) (v := nI 6) (hz_dec kX12_writeRecord 91 rfl) (by decide) ?_
    refine hz_addN (pc := 145) (hz_dec kX12_writeRecord 92 rfl) ?_
    refine hz_iconst (pc := 146) (v := nI 0) (hz_dec kX12_writeRecord 93 rfl) (by decide) ?_
    refine hz_bast (pc := 147) (j := (((12288 * v) + nx) + (l.length)) + 6) (hz_dec kX12_writeRecord 94 rfl) hE.a17 (by omega) (by omega) rfl (by omega) (by decide) ?_
    refine hz_aloadn (pc := 148) 3 (hz_dec kX12_writeRecord 95 rfl) rfl ?_
    refine hz_get (pc := 149) (v := .ref (B + 17)) (hz_dec kX12_writeRecord 96 rfl) fo_X12_62 (hz_mne hO (by omega)) h8 (by omega) (hF.2 19 (by decide) (by decide)) ?_
    refine hz_iload (pc := 152) 0 (hz_dec kX12_writeRecord 97 rfl) rfl ?_
    refine hz_iloadn (pc := 154) 1 (hz_dec kX12_writeRecord 98 rfl) rfl ?_
    refine hz_addN (pc := 155) (hz_dec kX12_writeRecord 99 rfl) ?_
    refine hz_bipush (pc := 156) (v := nI 7) (hz_dec kX12_writeRecord 100 rfl) (by decide) ?_
    refine hz_addN (pc := 158) (hz_dec kX12_writeRecord 101 rfl) ?_
    refine hz_iconst (pc := 159) (v := nI 0) (hz_dec kX12_writeRecord 102 rfl) (by decide) ?_
    refine hz_bast (pc := 160) (j := (((12288 * v) + nx) + (l.length)) + 7) (hz_dec kX12_writeRecord 103 rfl) (va_up_self _ _ _) (by omega) (by omega) rfl (by omega) (by decide) ?_
    refine hz_aloadn (pc := 161) 3 (hz_dec kX12_writeRecord 104 rfl) rfl ?_
    refine hz_get (pc := 162) (v := .ref (B + 17)) (hz_dec kX12_writeRecord 105 rfl) fo_X12_62 (hz_mne (hz_mne hO (by omega)) (by omega)) h8 (by omega) (hF.2 19 (by decide) (by decide)) ?_
    refine hz_iload (pc := 165) 0 (hz_dec kX12_writeRecord 106 rfl) rfl ?_
    refine hz_iconst (pc := 167) (v := nI 0) (hz_dec kX12_writeRecord 107 rfl) (by decide) ?_
    refine hz_bast (pc := 168) (j := (12288 * v) + nx) (hz_dec kX12_writeRecord 108 rfl) (va_up_self _ _ _) (by omega) (by omega) rfl (by omega) (by decide) ?_
    refine hz_aloadn (pc := 169) 3 (hz_dec kX12_writeRecord 109 rfl) rfl ?_
    refine hz_get (pc := 170) (v := .ref (B + 17)) (hz_dec kX12_writeRecord 110 rfl) fo_X12_62 (hz_mne (hz_mne (hz_mne hO (by omega)) (by omega)) (by omega)) h8 (by omega) (hF.2 19 (by decide) (by decide)) ?_
    refine hz_iload (pc := 173) 0 (hz_dec kX12_writeRecord 111 rfl) rfl ?_
    refine hz_iconst (pc := 175) (v := nI 1) (hz_dec kX12_writeRecord 112 rfl) (by decide) ?_
    refine hz_addN (pc := 176) (hz_dec kX12_writeRecord 113 rfl) ?_
    refine hz_iconst (pc := 177) (v := nI 0) (hz_dec kX12_writeRecord 114 rfl) (by decide) ?_
    refine hz_bast (pc := 178) (j := ((12288 * v) + nx) + 1) (hz_dec kX12_writeRecord 115 rfl) (va_up_self _ _ _) (by omega) (by omega) rfl (by omega) (by decide) ?_
    refine hz_iloadn (pc := 179) 1 (hz_dec kX12_writeRecord 116 rfl) rfl ?_
    refine hz_iconst (pc := 180) (v := nI 5) (hz_dec kX12_writeRecord 117 rfl) (by decide) ?_
    refine hz_addN (pc := 181) (hz_dec kX12_writeRecord 118 rfl) ?_
    refine hz_istore (pc := 182) (i := 5) (lo2 := [(5, .int (nI ((l.length) + 5))), (4, .int (nI ((12288 * v) + nx))), (3, .int (nI (l.length))), (2, .int (nI nx)), (0, .ref B), (1, .int (nI v))]) (hz_dec kX12_writeRecord 119 rfl) (by decide) rfl ?_
    refine hz_mem (pc := 184) (M2 := va_up M (B + 17) (.inl (1, 73728, .inl (upd (upd (upd (upd (fA M B 17) ((((12288 * v) + nx) + (l.length)) + 6) ((nI (0)).toInt8.toInt32)) ((((12288 * v) + nx) + (l.length)) + 7) ((nI (0)).toInt8.toInt32)) ((12288 * v) + nx) ((nI (0)).toInt8.toInt32)) (((12288 * v) + nx) + 1) ((nI (0)).toInt8.toInt32))))) (by rw [bx_uu, bx_uu, bx_uu]) ?_
    have e9 : ∀ o, ¬ o = 17 → fA (va_up M (B + 17) (.inl (1, 73728, .inl (upd (upd (upd (upd (fA M B 17) ((((12288 * v) + nx) + (l.length)) + 6) ((nI (0)).toInt8.toInt32)) ((((12288 * v) + nx) + (l.length)) + 7) ((nI (0)).toInt8.toInt32)) ((12288 * v) + nx) ((nI (0)).toInt8.toInt32)) (((12288 * v) + nx) + 1) ((nI (0)).toInt8.toInt32))))) B o = fA M B o := fun o ho => fA_c (va_up_ne _ _ (by omega))
    refine hz_pick (pc := 184) [0, 1, 2, 3, 4, 5] rfl ?_
    have hix : (nI (l.length + 5) : Int32) = nI (l.length + 6) - 1 := by rw [show l.length + 6 = (l.length + 5) + 1 by omega, nI_pred]
    rw [hix]
    refine c_wrr3 hk0 hE0 hv hl9 hA0 h390 h180 hrm hdk hfz h190 (l.length + 6) 0 _ (by omega) (Nat.zero_le _) (hfr.upA (o := 17) rfl (by decide)) (hE.upA (by decide)) (hag.upA (s := 12288) (by decide) (by decide) (fun x hx => (upd_o (by omega)).trans ((upd_o (by omega)).trans ((upd_o (by omega)).trans (upd_o (by omega)))))) ((e9 16 (by decide)).trans e16) ((e9 58 (by decide)).trans e58) ((e9 67 (by decide)).trans e67) ((e9 51 (by decide)).trans e51) (by rw [e9 19 (by decide), e19, h190]; cases fz <;> rfl) ?_ (by rw [e9 68 (by decide)]; exact fun j hj => by rw [Nat.zero_add]; exact h68 j (by rw [rcS_len] at hj; omega))
    rw [fA_of (va_up_self _ _ _)]
    intro j hj
    rw [dkR_0]
    unfold dkZ
    simp only [upd]
    have hd9 := hdk j hj
    rw [← e17] at hd9
    by_cases c1 : j = nx + 1
    · rw [if_pos (by omega), if_pos (by omega)]; rfl
    · rw [if_neg (by omega)]
      by_cases c2 : j = nx
      · rw [if_pos (by omega), if_pos (by omega)]; rfl
      · rw [if_neg (by omega)]
        by_cases c3 : j = nx + l.length + 7
        · rw [if_pos (by omega), if_pos (by omega)]; rfl
        · rw [if_neg (by omega)]
          by_cases c4 : j = nx + l.length + 6
          · rw [if_pos (by omega), if_pos (by omega)]; rfl
          · rw [if_neg (by omega), if_neg (by omega)]; exact hd9
  · skip
    refine hz_aloadn (pc := 102) 3 (hz_dec kX12_writeRecord 66 rfl) rfl ?_
    refine hz_get (pc := 103) (v := .ref (B + 68)) (hz_dec kX12_writeRecord 67 rfl) fo_X12_224 hO h8 (by omega) (hF.2 77 (by decide) (by decide)) ?_
    refine hz_iloadn (pc := 106) 1 (hz_dec kX12_writeRecord 68 rfl) rfl ?_
    refine hz_iconst (pc := 107) (v := nI 2) (hz_dec kX12_writeRecord 69 rfl) (by decide) ?_
    refine hz_addN (pc := 108) (hz_dec kX12_writeRecord 70 rfl) ?_
    refine hz_iload (pc := 109) 0 (hz_dec kX12_writeRecord 71 rfl) rfl ?_
    refine hz_addN (pc := 111) (hz_dec kX12_writeRecord 72 rfl) ?_
    refine hz_aloadn (pc := 112) 3 (hz_dec kX12_writeRecord 73 rfl) rfl ?_
    refine hz_get (pc := 113) (v := .ref (B + 5)) (hz_dec kX12_writeRecord 74 rfl) fo_X12_22 hO h8 (by omega) (hF.2 6 (by decide) (by decide)) ?_
    refine hz_iload (pc := 116) 0 (hz_dec kX12_writeRecord 75 rfl) rfl ?_
    refine hz_bald (pc := 118) (j := i) (hz_dec kX12_writeRecord 76 rfl) hE.a5 (by omega) (by omega) rfl (by omega) (by decide) ?_
    refine hz_bast (pc := 119) (j := ((l.length) + 2) + i) (hz_dec kX12_writeRecord 77 rfl) hE.a68 (by omega) (by omega) rfl (by omega) (by decide) ?_
    refine hz_incN (pc := 120) (i := 4) (lo2 := [(4, .int (nI (i + 1))), (3, .int (nI (l.length))), (2, .int (nI nx)), (0, .ref B), (1, .int (nI v))]) 0 (hz_dec kX12_writeRecord 78 rfl) rfl (by decide) rfl ?_
    refine hz_goto (pc := 123) (tgt := 96) (hz_dec kX12_writeRecord 79 rfl) (by decide) ?_
    refine hz_pick (pc := 96) [0, 1, 2, 3, 4] rfl ?_
    have e9 : ∀ o, ¬ o = 68 → fA (va_up M (B + 68) (.inl (1, 4000, .inl (upd (fA M B 68) (((l.length) + 2) + i) (((fA M B 5) i).toInt8.toInt32))))) B o = fA M B o := fun o ho => fA_c (va_up_ne _ _ (by omega))
    refine ih (4 - (i + 1)) (by omega) (i + 1) _ rfl (by omega) (hfr.upA (o := 68) rfl (by decide)) (hE.upA (by decide)) (hag.upZ (by decide) (by decide)) ((e9 16 (by decide)).trans e16) ((e9 58 (by decide)).trans e58) ((e9 67 (by decide)).trans e67) ((e9 51 (by decide)).trans e51) ((e9 19 (by decide)).trans e19) ((e9 17 (by decide)).trans e17) (by rw [e9 5 (by decide)]; exact h5) ?_
    rw [fA_of (va_up_self _ _ _)]
    intro j hj
    rcases (show j = l.length + 2 + i ∨ j < l.length + 2 + i by omega) with e | c
    · rw [e, upd_s, hby _ (by omega), h5 i (by omega), rcS_s (by omega) (by omega), Nat.add_sub_cancel_left]
    · rw [upd_o (by omega)]; exact h68 j c
set_option maxHeartbeats 4000000 in
set_option maxRecDepth 100000 in
theorem c_wrr1 {κ : hz_C} {z : Nat} {M0 : hz_M} {B : Nat} (hk0 : md_k B M0 z) (hE0 : mdE M0 B) {v nx : Nat} (hv : v < 6) {l : by_L} (hl9 : l.length ≤ 2945) (hA0 : isA (fA M0 B 35) 0 l) (h390 : fdB M0 B 39 = some (.int (nI l.length))) (h180 : fA M0 B 18 v = nI nx) (hrm : nx + l.length + 8 ≤ 12288) {dk : Nat → Int32} (hdk : ∀ j, j < 12288 → fA M0 B 17 (12288 * v + j) = dk j) {fz : Option Nat} (hfz : ∀ q, fz = some q → q < 2 ^ 31) (h190 : fA M0 B 19 v = pvI fz) : ∀ k i M, k = l.length - i → i ≤ l.length → mfr B [] [3, 4, 5, 16, 17, 19, 51, 58, 67, 68] M0 M → mdE M B → agV M0 M B v → fA M B 16 = fA M0 B 16 → fA M B 58 = fA M0 B 58 → fA M B 67 = fA M0 B 67 → fA M B 51 = fA M0 B 51 → fA M B 19 = fA M0 B 19 → fA M B 17 = fA M0 B 17 → rcI (fA M B 68) l nx i → hz_W κ xX12_writeRecord 3 0 0 (fun r z2 M2 => some (.int (hz_b (fzO fz (l.length + 6)))) = r ∧ z = z2 ∧ mfr B [] [3, 4, 5, 16, 17, 19, 51, 58, 67, 68] M0 M2 ∧ mdE M2 B ∧ agV M0 M2 B v ∧ (∀ j, j < 12288 → fA M2 B 17 (12288 * v + j) = dkW dk nx (rcS l nx) fz j) ∧ (fzO fz (l.length + 6) = true → fA M2 B 16 = fA M0 B 16 ∧ fA M2 B 58 = fA M0 B 58 ∧ fA M2 B 67 = fA M0 B 67 ∧ fA M2 B 19 v = pvI (fzN fz (l.length + 6)) ∧ isA (fA M2 B 51) (12288 * v + nx) (rcS l nx) ∧ ∀ x, x < 12288 * v + nx ∨ 12288 * v + nx + (l.length + 6) ≤ x → fA M2 B 51 x = fA M0 B 51 x) ∧ (fzO fz (l.length + 6) = false → fA M2 B 51 = fA M0 B 51 ∧ fA M2 B 16 v = 0 ∧ fA M2 B 58 v = 0 ∧ fA M2 B 67 v = 0 ∧ fA M2 B 19 v = -1)) 0 0 34 [(4, .int (nI i)), (3, .int (nI (l.length))), (2, .int (nI nx)), (0, .ref B), (1, .int (nI v))] [] z M := by
  intro k
  induction k using Nat.strongRecOn with
  | ind k ih =>
  intro i M hk hi hfr hE hag e16 e58 e67 e51 e19 e17 h68
  obtain ⟨-, -, -, h8, hz⟩ := id hk0
  obtain ⟨fs, hO, hF⟩ := id hfr.2.1
  have hA : isA (fA M B 35) 0 l := by rw [fA_m hfr (by decide) rfl]; exact hA0
  refine hz_bytes hE.a35 (by omega) (by omega) (fun hby => ?_)
  refine hz_iload (pc := 34) 0 (hz_dec kX12_writeRecord 24 rfl) rfl ?_
  refine hz_iloadn (pc := 36) 1 (hz_dec kX12_writeRecord 25 rfl) rfl ?_
  refine hz_n_ge (pc := 37) (tgt := 62) (hz_dec kX12_writeRecord 26 rfl) (by decide) (by omega) (by omega) (fun h1 => ?_) (fun h1 => ?_)
  · skip
    have e : i = l.length := by omega
    have hkM : md_k B M z := hk0.mf hfr rfl rfl
    have hAs : isA (fA M B 68) 0 (slS l nx) := by
      intro j hj
      rw [slS_len] at hj
      rw [Nat.zero_add]
      rcases (show j = 0 ∨ j = 1 ∨ 2 ≤ j by omega) with c | c | c
      · rw [c]; exact h68.1
      · rw [c]; exact h68.2.1
      · have q := h68.2.2 (j - 2) (by omega); rw [show 2 + (j - 2) = j by omega] at q; rw [q]; obtain ⟨t, rfl⟩ : ∃ t, j = t + 2 := ⟨j - 2, by omega⟩; rfl
    refine hz_aloadn (pc := 62) 3 (hz_dec kX12_writeRecord 39 rfl) rfl ?_
    refine hz_aloadn (pc := 63) 3 (hz_dec kX12_writeRecord 40 rfl) rfl ?_
    refine hz_get (pc := 64) (v := .ref (B + 68)) (hz_dec kX12_writeRecord 41 rfl) fo_X12_224 hO h8 (by omega) (hF.2 77 (by decide) (by decide)) ?_
    refine hz_iconst (pc := 67) (v := nI 0) (hz_dec kX12_writeRecord 42 rfl) (by decide) ?_
    refine hz_iloadn (pc := 68) 1 (hz_dec kX12_writeRecord 43 rfl) rfl ?_
    refine hz_iconst (pc := 69) (v := nI 2) (hz_dec kX12_writeRecord 44 rfl) (by decide) ?_
    refine hz_addN (pc := 70) (hz_dec kX12_writeRecord 45 rfl) ?_
    refine hz_callV (pc := 71) (a := B) (As := [.ref (B + 68), .int (nI 0), .int (nI ((l.length) + 2))]) (st := []) (hz_dec kX12_writeRecord 46 rfl) co_X12_326 im_X12_hashOf se_X12_hashOf rfl hO h8 (by omega) (c_hashF (n := l.length + 2) hkM hE.s hE.a68 (by omega) (by omega) (by decide) (by omega)) rfl (by decide) ⟨Nat.le_refl _, Nat.le_refl _⟩ (Nat.le_of_ble_eq_true rfl) rfl (fun r9 z9 M1 hp9 => ?_)
    obtain ⟨rfl, rfl, hf1, hs1, d1, hd1, hdc1⟩ := hp9
    rw [shS_of hAs (slS_len l nx)] at hdc1
    have hm1 : mfr B [] [3, 4, 5] M M1 := mfr.ofl ⟨fs, hO, hF⟩ hf1 rfl
    have hE1 : mdE M1 B := hE.hs hm1 hs1 rfl
    obtain ⟨fs1, hO1, hF1⟩ := id hm1.2.1
    refine hz_aloadn (pc := 74) 3 (hz_dec kX12_writeRecord 47 rfl) rfl ?_
    refine hz_get (pc := 75) (v := .ref (B + 68)) (hz_dec kX12_writeRecord 48 rfl) fo_X12_224 hO1 h8 (by omega) (hF1.2 77 (by decide) (by decide)) ?_
    refine hz_iconst (pc := 78) (v := nI 0) (hz_dec kX12_writeRecord 49 rfl) (by decide) ?_
    refine hz_iloadn (pc := 79) 1 (hz_dec kX12_writeRecord 50 rfl) rfl ?_
    refine hz_bipush (pc := 80) (v := nI 8) (hz_dec kX12_writeRecord 51 rfl) (by decide) ?_
    refine hz_ishr (pc := 82) (hz_dec kX12_writeRecord 52 rfl) ?_
    refine hz_i2b (pc := 83) (hz_dec kX12_writeRecord 53 rfl) ?_
    refine hz_bast (pc := 84) (j := 0) (hz_dec kX12_writeRecord 54 rfl) hE1.a68 (by omega) (by omega) rfl (by omega) (by decide) ?_
    refine hz_aloadn (pc := 85) 3 (hz_dec kX12_writeRecord 55 rfl) rfl ?_
    refine hz_get (pc := 86) (v := .ref (B + 68)) (hz_dec kX12_writeRecord 56 rfl) fo_X12_224 (hz_mne hO1 (by omega)) h8 (by omega) (hF1.2 77 (by decide) (by decide)) ?_
    refine hz_iconst (pc := 89) (v := nI 1) (hz_dec kX12_writeRecord 57 rfl) (by decide) ?_
    refine hz_iloadn (pc := 90) 1 (hz_dec kX12_writeRecord 58 rfl) rfl ?_
    refine hz_i2b (pc := 91) (hz_dec kX12_writeRecord 59 rfl) ?_
    refine hz_bast (pc := 92) (j := 1) (hz_dec kX12_writeRecord 60 rfl) (va_up_self _ _ _) (by omega) (by omega) rfl (by omega) (by decide) ?_
    refine hz_iconst (pc := 93) (v := nI 0) (hz_dec kX12_writeRecord 61 rfl) (by decide) ?_
    refine hz_istore (pc := 94) (i := 4) (lo2 := [(4, .int (nI 0)), (3, .int (nI (l.length))), (2, .int (nI nx)), (0, .ref B), (1, .int (nI v))]) (hz_dec kX12_writeRecord 62 rfl) (by decide) rfl ?_
    refine hz_mem (pc := 96) (M2 := (va_up M1 (B + 68) (.inl (1, 4000, .inl (upd (upd (fA M1 B 68) 0 ((((nI (l.length)) >>> ((nI (8)) &&& 31)).toInt8.toInt32).toInt8.toInt32)) 1 (((nI (l.length)).toInt8.toInt32).toInt8.toInt32)))))) (bx_uu _ _ _ _) ?_
    refine hz_pick (pc := 96) [0, 1, 2, 3, 4] rfl ?_
    have e9 : ∀ o, ¬ o = 68 → ¬ o = 0 → [3, 4, 5].elem o = false → fA (va_up M1 (B + 68) (.inl (1, 4000, .inl (upd (upd (fA M1 B 68) 0 ((((nI (l.length)) >>> ((nI (8)) &&& 31)).toInt8.toInt32).toInt8.toInt32)) 1 (((nI (l.length)).toInt8.toInt32).toInt8.toInt32))))) B o = fA M B o := fun o ho h0 he => (fA_c (va_up_ne _ _ (by omega))).trans (fA_m hm1 h0 he)
    refine c_wrr2 hk0 hE0 hv hl9 hA0 h390 h180 hrm hdk hfz h190 4 0 _ rfl (by omega) ((hfr.tr (hm1.mono rfl rfl)).upA (o := 68) rfl (by decide)) (hE1.upA (by decide)) ((hag.tr (agV.mf hm1 rfl rfl)).upZ (by decide) (by decide)) ((e9 16 (by decide) (by decide) rfl).trans e16) ((e9 58 (by decide) (by decide) rfl).trans e58) ((e9 67 (by decide) (by decide) rfl).trans e67) ((e9 51 (by decide) (by decide) rfl).trans e51) ((e9 19 (by decide) (by decide) rfl).trans e19) ((e9 17 (by decide) (by decide) rfl).trans e17) (fun j hj => ?_) ?_
    · rw [fA_c (hz_mne rfl (by omega)), fA_of hd1]; exact hdc1 j hj
    · rw [fA_of (va_up_self _ _ _)]
      intro j hj
      rcases (show j = 0 ∨ j = 1 ∨ 2 ≤ j by omega) with c | c | c
      · rw [c, upd_o (by omega), upd_s, rcS_0]; exact (sb_sh (by omega)).1
      · rw [c, upd_s, rcS_1]; exact (sb_sh (by omega)).2
      · rw [upd_o (by omega), upd_o (by omega), fA_m hm1 (by decide) rfl, rcS_b c (by omega)]; have q := h68.2.2 (j - 2) (by omega); rw [show 2 + (j - 2) = j by omega] at q; exact q
  · skip
    refine hz_aloadn (pc := 40) 3 (hz_dec kX12_writeRecord 27 rfl) rfl ?_
    refine hz_get (pc := 41) (v := .ref (B + 68)) (hz_dec kX12_writeRecord 28 rfl) fo_X12_224 hO h8 (by omega) (hF.2 77 (by decide) (by decide)) ?_
    refine hz_iconst (pc := 44) (v := nI 2) (hz_dec kX12_writeRecord 29 rfl) (by decide) ?_
    refine hz_iload (pc := 45) 0 (hz_dec kX12_writeRecord 30 rfl) rfl ?_
    refine hz_addN (pc := 47) (hz_dec kX12_writeRecord 31 rfl) ?_
    refine hz_aloadn (pc := 48) 3 (hz_dec kX12_writeRecord 32 rfl) rfl ?_
    refine hz_get (pc := 49) (v := .ref (B + 35)) (hz_dec kX12_writeRecord 33 rfl) fo_X12_116 hO h8 (by omega) (hF.2 38 (by decide) (by decide)) ?_
    refine hz_iload (pc := 52) 0 (hz_dec kX12_writeRecord 34 rfl) rfl ?_
    refine hz_bald (pc := 54) (j := i) (hz_dec kX12_writeRecord 35 rfl) hE.a35 (by omega) (by omega) rfl (by omega) (by decide) ?_
    refine hz_bast (pc := 55) (j := 2 + i) (hz_dec kX12_writeRecord 36 rfl) hE.a68 (by omega) (by omega) rfl (by omega) (by decide) ?_
    refine hz_incN (pc := 56) (i := 4) (lo2 := [(4, .int (nI (i + 1))), (3, .int (nI (l.length))), (2, .int (nI nx)), (0, .ref B), (1, .int (nI v))]) 0 (hz_dec kX12_writeRecord 37 rfl) rfl (by decide) rfl ?_
    refine hz_goto (pc := 59) (tgt := 34) (hz_dec kX12_writeRecord 38 rfl) (by decide) ?_
    refine hz_pick (pc := 34) [0, 1, 2, 3, 4] rfl ?_
    have e9 : ∀ o, ¬ o = 68 → fA (va_up M (B + 68) (.inl (1, 4000, .inl (upd (fA M B 68) (2 + i) (((fA M B 35) i).toInt8.toInt32))))) B o = fA M B o := fun o ho => fA_c (va_up_ne _ _ (by omega))
    refine ih (l.length - (i + 1)) (by omega) (i + 1) _ rfl (by omega) (hfr.upA (o := 68) rfl (by decide)) (hE.upA (by decide)) (hag.upZ (by decide) (by decide)) ((e9 16 (by decide)).trans e16) ((e9 58 (by decide)).trans e58) ((e9 67 (by decide)).trans e67) ((e9 51 (by decide)).trans e51) ((e9 19 (by decide)).trans e19) ((e9 17 (by decide)).trans e17) ?_
    rw [fA_of (va_up_self _ _ _)]
    refine ⟨(upd_o (by omega)).trans h68.1, (upd_o (by omega)).trans h68.2.1, fun j hj => ?_⟩
    rcases (show j = i ∨ j < i by omega) with e | c
    · rw [e, upd_s, hby _ (by omega)]; have q := hA i h1; rw [Nat.zero_add] at q; exact q
    · rw [upd_o (by omega)]; exact h68.2.2 j c
set_option maxHeartbeats 4000000 in
set_option maxRecDepth 100000 in
theorem c_wrRec {κ : hz_C} {z : Nat} {M : hz_M} {B : Nat} (hk0 : md_k B M z) (hE0 : mdE M B) {v nx : Nat} (hv : v < 6) {l : by_L} (hl9 : l.length ≤ 2945) (hA0 : isA (fA M B 35) 0 l) (h390 : fdB M B 39 = some (.int (nI l.length))) (h180 : fA M B 18 v = nI nx) (hrm : nx + l.length + 8 ≤ 12288) {dk : Nat → Int32} (hdk : ∀ j, j < 12288 → fA M B 17 (12288 * v + j) = dk j) {fz : Option Nat} (hfz : ∀ q, fz = some q → q < 2 ^ 31) (h190 : fA M B 19 v = pvI fz) : hz_Mt κ xX12_writeRecord 3 0 0 [.ref B, .int (nI v)] z M (fun r z2 M2 => some (.int (hz_b (fzO fz (l.length + 6)))) = r ∧ z = z2 ∧ mfr B [] [3, 4, 5, 16, 17, 19, 51, 58, 67, 68] M M2 ∧ mdE M2 B ∧ agV M M2 B v ∧ (∀ j, j < 12288 → fA M2 B 17 (12288 * v + j) = dkW dk nx (rcS l nx) fz j) ∧ (fzO fz (l.length + 6) = true → fA M2 B 16 = fA M B 16 ∧ fA M2 B 58 = fA M B 58 ∧ fA M2 B 67 = fA M B 67 ∧ fA M2 B 19 v = pvI (fzN fz (l.length + 6)) ∧ isA (fA M2 B 51) (12288 * v + nx) (rcS l nx) ∧ ∀ x, x < 12288 * v + nx ∨ 12288 * v + nx + (l.length + 6) ≤ x → fA M2 B 51 x = fA M B 51 x) ∧ (fzO fz (l.length + 6) = false → fA M2 B 51 = fA M B 51 ∧ fA M2 B 16 v = 0 ∧ fA M2 B 58 v = 0 ∧ fA M2 B 67 v = 0 ∧ fA M2 B 19 v = -1)) := by
  refine hz_ent (lo := [(0, .ref B), (1, .int (nI v))]) (by decide) (Nat.le_of_ble_eq_true rfl) rfl ?_
  obtain ⟨⟨fs, hO, hF⟩, -, -, h8, hz⟩ := id hk0
  have g39 : fs[39]? = some (.int (nI l.length)) := (fdB_of hO 39).symm.trans h390
  refine hz_aloadn (pc := 0) 0 (hz_dec kX12_writeRecord 0 rfl) rfl ?_
  refine hz_get (pc := 1) (v := .ref (B + 18)) (hz_dec kX12_writeRecord 1 rfl) fo_X12_65 hO h8 (by omega) (hF.2 20 (by decide) (by decide)) ?_
  refine hz_iloadn (pc := 4) 1 (hz_dec kX12_writeRecord 2 rfl) rfl ?_
  refine hz_iald (pc := 5) (j := v) (hz_dec kX12_writeRecord 3 rfl) hE0.a18 (by omega) (by omega) rfl (by omega) (by decide) ?_
  refine hz_eqi (pc := 6) h180 ?_
  refine hz_istoren (pc := 6) (i := 2) (lo2 := [(2, .int (nI nx)), (0, .ref B), (1, .int (nI v))]) (hz_dec kX12_writeRecord 4 rfl) rfl (by decide) rfl ?_
  refine hz_aloadn (pc := 7) 1 (hz_dec kX12_writeRecord 5 rfl) rfl ?_
  refine hz_get (pc := 8) (v := .int (nI (l.length))) (hz_dec kX12_writeRecord 6 rfl) fo_X12_422 hO h8 (by omega) g39 ?_
  refine hz_istoren (pc := 11) (i := 3) (lo2 := [(3, .int (nI (l.length))), (2, .int (nI nx)), (0, .ref B), (1, .int (nI v))]) (hz_dec kX12_writeRecord 7 rfl) rfl (by decide) rfl ?_
  refine hz_aloadn (pc := 12) 2 (hz_dec kX12_writeRecord 8 rfl) rfl ?_
  refine hz_get (pc := 13) (v := .ref (B + 68)) (hz_dec kX12_writeRecord 9 rfl) fo_X12_224 hO h8 (by omega) (hF.2 77 (by decide) (by decide)) ?_
  refine hz_iconst (pc := 16) (v := nI 0) (hz_dec kX12_writeRecord 10 rfl) (by decide) ?_
  refine hz_iloadn (pc := 17) 1 (hz_dec kX12_writeRecord 11 rfl) rfl ?_
  refine hz_bipush (pc := 18) (v := nI 8) (hz_dec kX12_writeRecord 12 rfl) (by decide) ?_
  refine hz_ishr (pc := 20) (hz_dec kX12_writeRecord 13 rfl) ?_
  refine hz_i2b (pc := 21) (hz_dec kX12_writeRecord 14 rfl) ?_
  refine hz_bast (pc := 22) (j := 0) (hz_dec kX12_writeRecord 15 rfl) hE0.a68 (by omega) (by omega) rfl (by omega) (by decide) ?_
  refine hz_aloadn (pc := 23) 2 (hz_dec kX12_writeRecord 16 rfl) rfl ?_
  refine hz_get (pc := 24) (v := .ref (B + 68)) (hz_dec kX12_writeRecord 17 rfl) fo_X12_224 (hz_mne hO (by omega)) h8 (by omega) (hF.2 77 (by decide) (by decide)) ?_
  refine hz_iconst (pc := 27) (v := nI 1) (hz_dec kX12_writeRecord 18 rfl) (by decide) ?_
  refine hz_iloadn (pc := 28) 1 (hz_dec kX12_writeRecord 19 rfl) rfl ?_
  refine hz_i2b (pc := 29) (hz_dec kX12_writeRecord 20 rfl) ?_
  refine hz_bast (pc := 30) (j := 1) (hz_dec kX12_writeRecord 21 rfl) (va_up_self _ _ _) (by omega) (by omega) rfl (by omega) (by decide) ?_
  refine hz_iconst (pc := 31) (v := nI 0) (hz_dec kX12_writeRecord 22 rfl) (by decide) ?_
  refine hz_istore (pc := 32) (i := 4) (lo2 := [(4, .int (nI 0)), (3, .int (nI (l.length))), (2, .int (nI nx)), (0, .ref B), (1, .int (nI v))]) (hz_dec kX12_writeRecord 23 rfl) (by decide) rfl ?_
  refine hz_mem (pc := 34) (M2 := (va_up M (B + 68) (.inl (1, 4000, .inl (upd (upd (fA M B 68) 0 ((((nI (nx)) >>> ((nI (8)) &&& 31)).toInt8.toInt32).toInt8.toInt32)) 1 (((nI (nx)).toInt8.toInt32).toInt8.toInt32)))))) (bx_uu _ _ _ _) ?_
  refine hz_pick (pc := 34) [0, 1, 2, 3, 4] rfl ?_
  have e9 : ∀ o, ¬ o = 68 → fA (va_up M (B + 68) (.inl (1, 4000, .inl (upd (upd (fA M B 68) 0 ((((nI (nx)) >>> ((nI (8)) &&& 31)).toInt8.toInt32).toInt8.toInt32)) 1 (((nI (nx)).toInt8.toInt32).toInt8.toInt32))))) B o = fA M B o := fun o ho => fA_c (va_up_ne _ _ (by omega))
  refine c_wrr1 hk0 hE0 hv hl9 hA0 h390 h180 hrm hdk hfz h190 l.length 0 _ rfl (by omega) ((mfr.rf ⟨fs, hO, hF⟩).upA (o := 68) rfl (by decide)) (hE0.upA (by decide)) (agV.rf.upZ (by decide) (by decide)) (e9 16 (by decide)) (e9 58 (by decide)) (e9 67 (by decide)) (e9 51 (by decide)) (e9 19 (by decide)) (e9 17 (by decide)) ?_
  rw [fA_of (va_up_self _ _ _)]
  exact ⟨(upd_o (by decide)).trans (upd_s.trans (sb_sh (by omega)).1), upd_s.trans (sb_sh (by omega)).2, fun j hj => absurd hj (by omega)⟩
