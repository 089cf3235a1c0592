/-! the reference: entries of blocks and of lent headers; middleBehind, dueBehind -/
/-- the reference's number of entry y, where nb are stored -/
def rx (nb y : Nat) : Nat := if y < nb then y else 1000 + (y - nb)
def rpI (nb : Nat) (p : Option Nat) : Int32 := match p with
  | none => -1
  | some q => nI (rx nb q)
def rvX (fa : Nat → Nat → Int32) (v nb : Nat) (en : List en_E) : Prop := ∀ y, y < en.length → (y < nb → fa 26 (128 * v + y) = rpI nb (eP en y) ∧ fa 27 (128 * v + y) = nI (eH en y) ∧ fa 28 (128 * v + y) = eT en y ∧ fa 29 (128 * v + y) = eB en y) ∧ (nb ≤ y → fa 38 (y - nb) = rpI nb (eP en y) ∧ fa 39 (y - nb) = nI (eH en y) ∧ fa 40 (y - nb) = eT en y ∧ fa 41 (y - nb) = eB en y)
set_option maxHeartbeats 4000000 in
set_option maxRecDepth 100000 in
theorem c_at0 {κ : hz_C} {z : Nat} {M : hz_M} {v y : Nat} : hz_Mt κ xX12_at0 0 0 0 [.int (nI v), .int (nI y)] z M (hz_ex (some (.int (nI (128 * v + y)))) z M) := by
  refine hz_ent (lo := [(0, .int (nI v)), (1, .int (nI y))]) (by decide) (Nat.le_of_ble_eq_true rfl) rfl ?_
  refine hz_sipush (pc := 0) (v := nI 128) (hz_dec kX12_at0 0 rfl) (by decide) ?_
  refine hz_iloadn (pc := 3) 0 (hz_dec kX12_at0 1 rfl) rfl ?_
  refine hz_mulN (pc := 4) (hz_dec kX12_at0 2 rfl) ?_
  refine hz_iloadn (pc := 5) 1 (hz_dec kX12_at0 3 rfl) rfl ?_
  refine hz_addN (pc := 6) (hz_dec kX12_at0 4 rfl) ?_
  exact hz_iret (pc := 7) (hz_dec kX12_at0 5 rfl) rfl ⟨rfl, rfl, rfl⟩
set_option maxHeartbeats 4000000 in
set_option maxRecDepth 100000 in
theorem c_prevOf {κ : hz_C} {z : Nat} {M : hz_M} {B : Nat} (hO_ : md_O M B) (hE : mdE M B) (h8 : 8 ≤ B) (hz : B + 88 ≤ z) {v nb : Nat} {en : List en_E} (hv : v < 6) (hnb : nb ≤ 128) (hen : en.length ≤ nb + 16) (hR : rvX (fA M B) v nb en) {y : Nat} (hy : y < en.length) : hz_Mt κ xX12_prevOf 1 0 0 [.ref B, .int (nI v), .int (nI (rx nb y))] z M (hz_ex (some (.int (rpI nb (eP en y)))) z M) := by
  obtain ⟨fs, hO, hF⟩ := id hO_
  have hR1 := hR y hy
  by_cases c : y < nb
  · skip
    rw [show rx nb y = y from if_pos c]
    refine hz_ent (lo := [(0, .ref B), (1, .int (nI v)), (2, .int (nI y))]) (by decide) (Nat.le_of_ble_eq_true rfl) rfl ?_
    refine hz_iloadn (pc := 0) 2 (hz_dec kX12_prevOf 0 rfl) rfl ?_
    refine hz_sipush (pc := 1) (v := nI 1000) (hz_dec kX12_prevOf 1 rfl) (by decide) ?_
    refine hz_n_lt (pc := 4) (tgt := 20) (hz_dec kX12_prevOf 2 rfl) (by decide) (by omega) (by omega) (fun h1 => ?_) (fun h1 => ?_)
    · skip
      refine hz_aloadn (pc := 20) 0 (hz_dec kX12_prevOf 10 rfl) rfl ?_
      refine hz_get (pc := 21) (v := .ref (B + 26)) (hz_dec kX12_prevOf 11 rfl) fo_X12_89 hO h8 (by omega) (hF.2 28 (by decide) (by decide)) ?_
      refine hz_iloadn (pc := 24) 1 (hz_dec kX12_prevOf 12 rfl) rfl ?_
      refine hz_iloadn (pc := 25) 2 (hz_dec kX12_prevOf 13 rfl) rfl ?_
      refine hz_xS (pc := 26) (As := [.int (nI v), .int (nI y)]) (st := [.ref (B + 26)]) (hz_dec kX12_prevOf 14 rfl) co_X12_419 sc_X12_at0 (c_at0) rfl (by decide) ⟨Nat.le_refl _, Nat.le_refl _⟩ (Nat.le_of_ble_eq_true rfl) rfl ?_
      refine hz_iald (pc := 29) (j := 128 * v + y) (hz_dec kX12_prevOf 15 rfl) hE.a26 (by omega) (by omega) rfl (by omega) (by decide) ?_
      exact hz_iret (pc := 30) (hz_dec kX12_prevOf 16 rfl) rfl ⟨by rw [(hR1.1 c).1], rfl, rfl⟩
    · skip
      exact absurd h1 (by omega)
  · skip
    rw [show rx nb y = 1000 + (y - nb) from if_neg c]
    refine hz_ent (lo := [(0, .ref B), (1, .int (nI v)), (2, .int (nI (1000 + (y - nb))))]) (by decide) (Nat.le_of_ble_eq_true rfl) rfl ?_
    refine hz_iloadn (pc := 0) 2 (hz_dec kX12_prevOf 0 rfl) rfl ?_
    refine hz_sipush (pc := 1) (v := nI 1000) (hz_dec kX12_prevOf 1 rfl) (by decide) ?_
    refine hz_n_lt (pc := 4) (tgt := 20) (hz_dec kX12_prevOf 2 rfl) (by decide) (by omega) (by omega) (fun h1 => ?_) (fun h1 => ?_)
    · skip
      exact absurd h1 (by omega)
    · skip
      refine hz_aloadn (pc := 7) 0 (hz_dec kX12_prevOf 3 rfl) rfl ?_
      refine hz_get (pc := 8) (v := .ref (B + 38)) (hz_dec kX12_prevOf 4 rfl) fo_X12_125 hO h8 (by omega) (hF.2 42 (by decide) (by decide)) ?_
      refine hz_iloadn (pc := 11) 2 (hz_dec kX12_prevOf 5 rfl) rfl ?_
      refine hz_sipush (pc := 12) (v := nI 1000) (hz_dec kX12_prevOf 6 rfl) (by decide) ?_
      refine hz_subN (pc := 15) (hz_dec kX12_prevOf 7 rfl) (by omega) ?_
      refine hz_iald (pc := 16) (j := (1000 + (y - nb)) - 1000) (hz_dec kX12_prevOf 8 rfl) hE.a38 (by omega) (by omega) rfl (by omega) (by decide) ?_
      refine hz_goto (pc := 17) (tgt := 30) (hz_dec kX12_prevOf 9 rfl) (by decide) ?_
      exact hz_iret (pc := 30) (hz_dec kX12_prevOf 16 rfl) rfl ⟨by rw [show 1000 + (y - nb) - 1000 = y - nb by omega, (hR1.2 (by omega)).1], rfl, rfl⟩
set_option maxHeartbeats 4000000 in
set_option maxRecDepth 100000 in
theorem c_heightOf {κ : hz_C} {z : Nat} {M : hz_M} {B : Nat} (hO_ : md_O M B) (hE : mdE M B) (h8 : 8 ≤ B) (hz : B + 88 ≤ z) {v nb : Nat} {en : List en_E} (hv : v < 6) (hnb : nb ≤ 128) (hen : en.length ≤ nb + 16) (hR : rvX (fA M B) v nb en) {y : Nat} (hy : y < en.length) : hz_Mt κ xX12_heightOf 1 0 0 [.ref B, .int (nI v), .int (nI (rx nb y))] z M (hz_ex (some (.int (nI (eH en y)))) z M) := by
  obtain ⟨fs, hO, hF⟩ := id hO_
  have hR1 := hR y hy
  by_cases c : y < nb
  · skip
    rw [show rx nb y = y from if_pos c]
    refine hz_ent (lo := [(0, .ref B), (1, .int (nI v)), (2, .int (nI y))]) (by decide) (Nat.le_of_ble_eq_true rfl) rfl ?_
    refine hz_iloadn (pc := 0) 2 (hz_dec kX12_heightOf 0 rfl) rfl ?_
    refine hz_sipush (pc := 1) (v := nI 1000) (hz_dec kX12_heightOf 1 rfl) (by decide) ?_
    refine hz_n_lt (pc := 4) (tgt := 20) (hz_dec kX12_heightOf 2 rfl) (by decide) (by omega) (by omega) (fun h1 => ?_) (fun h1 => ?_)
    · skip
      refine hz_aloadn (pc := 20) 0 (hz_dec kX12_heightOf 10 rfl) rfl ?_
      refine hz_get (pc := 21) (v := .ref (B + 27)) (hz_dec kX12_heightOf 11 rfl) fo_X12_92 hO h8 (by omega) (hF.2 29 (by decide) (by decide)) ?_
      refine hz_iloadn (pc := 24) 1 (hz_dec kX12_heightOf 12 rfl) rfl ?_
      refine hz_iloadn (pc := 25) 2 (hz_dec kX12_heightOf 13 rfl) rfl ?_
      refine hz_xS (pc := 26) (As := [.int (nI v), .int (nI y)]) (st := [.ref (B + 27)]) (hz_dec kX12_heightOf 14 rfl) co_X12_419 sc_X12_at0 (c_at0) rfl (by decide) ⟨Nat.le_refl _, Nat.le_refl _⟩ (Nat.le_of_ble_eq_true rfl) rfl ?_
      refine hz_iald (pc := 29) (j := 128 * v + y) (hz_dec kX12_heightOf 15 rfl) hE.a27 (by omega) (by omega) rfl (by omega) (by decide) ?_
      exact hz_iret (pc := 30) (hz_dec kX12_heightOf 16 rfl) rfl ⟨by rw [(hR1.1 c).2.1], rfl, rfl⟩
    · skip
      exact absurd h1 (by omega)
  · skip
    rw [show rx nb y = 1000 + (y - nb) from if_neg c]
    refine hz_ent (lo := [(0, .ref B), (1, .int (nI v)), (2, .int (nI (1000 + (y - nb))))]) (by decide) (Nat.le_of_ble_eq_true rfl) rfl ?_
    refine hz_iloadn (pc := 0) 2 (hz_dec kX12_heightOf 0 rfl) rfl ?_
    refine hz_sipush (pc := 1) (v := nI 1000) (hz_dec kX12_heightOf 1 rfl) (by decide) ?_
    refine hz_n_lt (pc := 4) (tgt := 20) (hz_dec kX12_heightOf 2 rfl) (by decide) (by omega) (by omega) (fun h1 => ?_) (fun h1 => ?_)
    · skip
      exact absurd h1 (by omega)
    · skip
      refine hz_aloadn (pc := 7) 0 (hz_dec kX12_heightOf 3 rfl) rfl ?_
      refine hz_get (pc := 8) (v := .ref (B + 39)) (hz_dec kX12_heightOf 4 rfl) fo_X12_128 hO h8 (by omega) (hF.2 43 (by decide) (by decide)) ?_
      refine hz_iloadn (pc := 11) 2 (hz_dec kX12_heightOf 5 rfl) rfl ?_
      refine hz_sipush (pc := 12) (v := nI 1000) (hz_dec kX12_heightOf 6 rfl) (by decide) ?_
      refine hz_subN (pc := 15) (hz_dec kX12_heightOf 7 rfl) (by omega) ?_
      refine hz_iald (pc := 16) (j := (1000 + (y - nb)) - 1000) (hz_dec kX12_heightOf 8 rfl) hE.a39 (by omega) (by omega) rfl (by omega) (by decide) ?_
      refine hz_goto (pc := 17) (tgt := 30) (hz_dec kX12_heightOf 9 rfl) (by decide) ?_
      exact hz_iret (pc := 30) (hz_dec kX12_heightOf 16 rfl) rfl ⟨by rw [show 1000 + (y - nb) - 1000 = y - nb by omega, (hR1.2 (by omega)).2.1], rfl, rfl⟩
set_option maxHeartbeats 4000000 in
set_option maxRecDepth 100000 in
theorem c_timeOf {κ : hz_C} {z : Nat} {M : hz_M} {B : Nat} (hO_ : md_O M B) (hE : mdE M B) (h8 : 8 ≤ B) (hz : B + 88 ≤ z) {v nb : Nat} {en : List en_E} (hv : v < 6) (hnb : nb ≤ 128) (hen : en.length ≤ nb + 16) (hR : rvX (fA M B) v nb en) {y : Nat} (hy : y < en.length) : hz_Mt κ xX12_timeOf 1 0 0 [.ref B, .int (nI v), .int (nI (rx nb y))] z M (hz_ex (some (.int (eT en y))) z M) := by
  obtain ⟨fs, hO, hF⟩ := id hO_
  have hR1 := hR y hy
  by_cases c : y < nb
  · skip
    rw [show rx nb y = y from if_pos c]
    refine hz_ent (lo := [(0, .ref B), (1, .int (nI v)), (2, .int (nI y))]) (by decide) (Nat.le_of_ble_eq_true rfl) rfl ?_
    refine hz_iloadn (pc := 0) 2 (hz_dec kX12_timeOf 0 rfl) rfl ?_
    refine hz_sipush (pc := 1) (v := nI 1000) (hz_dec kX12_timeOf 1 rfl) (by decide) ?_
    refine hz_n_lt (pc := 4) (tgt := 20) (hz_dec kX12_timeOf 2 rfl) (by decide) (by omega) (by omega) (fun h1 => ?_) (fun h1 => ?_)
    · skip
      refine hz_aloadn (pc := 20) 0 (hz_dec kX12_timeOf 10 rfl) rfl ?_
      refine hz_get (pc := 21) (v := .ref (B + 28)) (hz_dec kX12_timeOf 11 rfl) fo_X12_95 hO h8 (by omega) (hF.2 30 (by decide) (by decide)) ?_
      refine hz_iloadn (pc := 24) 1 (hz_dec kX12_timeOf 12 rfl) rfl ?_
      refine hz_iloadn (pc := 25) 2 (hz_dec kX12_timeOf 13 rfl) rfl ?_
      refine hz_xS (pc := 26) (As := [.int (nI v), .int (nI y)]) (st := [.ref (B + 28)]) (hz_dec kX12_timeOf 14 rfl) co_X12_419 sc_X12_at0 (c_at0) rfl (by decide) ⟨Nat.le_refl _, Nat.le_refl _⟩ (Nat.le_of_ble_eq_true rfl) rfl ?_
      refine hz_iald (pc := 29) (j := 128 * v + y) (hz_dec kX12_timeOf 15 rfl) hE.a28 (by omega) (by omega) rfl (by omega) (by decide) ?_
      exact hz_iret (pc := 30) (hz_dec kX12_timeOf 16 rfl) rfl ⟨by rw [(hR1.1 c).2.2.1], rfl, rfl⟩
    · skip
      exact absurd h1 (by omega)
  · skip
    rw [show rx nb y = 1000 + (y - nb) from if_neg c]
    refine hz_ent (lo := [(0, .ref B), (1, .int (nI v)), (2, .int (nI (1000 + (y - nb))))]) (by decide) (Nat.le_of_ble_eq_true rfl) rfl ?_
    refine hz_iloadn (pc := 0) 2 (hz_dec kX12_timeOf 0 rfl) rfl ?_
    refine hz_sipush (pc := 1) (v := nI 1000) (hz_dec kX12_timeOf 1 rfl) (by decide) ?_
    refine hz_n_lt (pc := 4) (tgt := 20) (hz_dec kX12_timeOf 2 rfl) (by decide) (by omega) (by omega) (fun h1 => ?_) (fun h1 => ?_)
    · skip
      exact absurd h1 (by omega)
    · skip
      refine hz_aloadn (pc := 7) 0 (hz_dec kX12_timeOf 3 rfl) rfl ?_
      refine hz_get (pc := 8) (v := .ref (B + 40)) (hz_dec kX12_timeOf 4 rfl) fo_X12_131 hO h8 (by omega) (hF.2 44 (by decide) (by decide)) ?_
      refine hz_iloadn (pc := 11) 2 (hz_dec kX12_timeOf 5 rfl) rfl ?_
      refine hz_sipush (pc := 12) (v := nI 1000) (hz_dec kX12_timeOf 6 rfl) (by decide) ?_
      refine hz_subN (pc := 15) (hz_dec kX12_timeOf 7 rfl) (by omega) ?_
      refine hz_iald (pc := 16) (j := (1000 + (y - nb)) - 1000) (hz_dec kX12_timeOf 8 rfl) hE.a40 (by omega) (by omega) rfl (by omega) (by decide) ?_
      refine hz_goto (pc := 17) (tgt := 30) (hz_dec kX12_timeOf 9 rfl) (by decide) ?_
      exact hz_iret (pc := 30) (hz_dec kX12_timeOf 16 rfl) rfl ⟨by rw [show 1000 + (y - nb) - 1000 = y - nb by omega, (hR1.2 (by omega)).2.2.1], rfl, rfl⟩
set_option maxHeartbeats 4000000 in
set_option maxRecDepth 100000 in
theorem c_bitsOf {κ : hz_C} {z : Nat} {M : hz_M} {B : Nat} (hO_ : md_O M B) (hE : mdE M B) (h8 : 8 ≤ B) (hz : B + 88 ≤ z) {v nb : Nat} {en : List en_E} (hv : v < 6) (hnb : nb ≤ 128) (hen : en.length ≤ nb + 16) (hR : rvX (fA M B) v nb en) {y : Nat} (hy : y < en.length) : hz_Mt κ xX12_bitsOf 1 0 0 [.ref B, .int (nI v), .int (nI (rx nb y))] z M (hz_ex (some (.int (eB en y))) z M) := by
  obtain ⟨fs, hO, hF⟩ := id hO_
  have hR1 := hR y hy
  by_cases c : y < nb
  · skip
    rw [show rx nb y = y from if_pos c]
    refine hz_ent (lo := [(0, .ref B), (1, .int (nI v)), (2, .int (nI y))]) (by decide) (Nat.le_of_ble_eq_true rfl) rfl ?_
    refine hz_iloadn (pc := 0) 2 (hz_dec kX12_bitsOf 0 rfl) rfl ?_
    refine hz_sipush (pc := 1) (v := nI 1000) (hz_dec kX12_bitsOf 1 rfl) (by decide) ?_
    refine hz_n_lt (pc := 4) (tgt := 20) (hz_dec kX12_bitsOf 2 rfl) (by decide) (by omega) (by omega) (fun h1 => ?_) (fun h1 => ?_)
    · skip
      refine hz_aloadn (pc := 20) 0 (hz_dec kX12_bitsOf 10 rfl) rfl ?_
      refine hz_get (pc := 21) (v := .ref (B + 29)) (hz_dec kX12_bitsOf 11 rfl) fo_X12_98 hO h8 (by omega) (hF.2 31 (by decide) (by decide)) ?_
      refine hz_iloadn (pc := 24) 1 (hz_dec kX12_bitsOf 12 rfl) rfl ?_
      refine hz_iloadn (pc := 25) 2 (hz_dec kX12_bitsOf 13 rfl) rfl ?_
      refine hz_xS (pc := 26) (As := [.int (nI v), .int (nI y)]) (st := [.ref (B + 29)]) (hz_dec kX12_bitsOf 14 rfl) co_X12_419 sc_X12_at0 (c_at0) rfl (by decide) ⟨Nat.le_refl _, Nat.le_refl _⟩ (Nat.le_of_ble_eq_true rfl) rfl ?_
      refine hz_iald (pc := 29) (j := 128 * v + y) (hz_dec kX12_bitsOf 15 rfl) hE.a29 (by omega) (by omega) rfl (by omega) (by decide) ?_
      exact hz_iret (pc := 30) (hz_dec kX12_bitsOf 16 rfl) rfl ⟨by rw [(hR1.1 c).2.2.2], rfl, rfl⟩
    · skip
      exact absurd h1 (by omega)
  · skip
    rw [show rx nb y = 1000 + (y - nb) from if_neg c]
    refine hz_ent (lo := [(0, .ref B), (1, .int (nI v)), (2, .int (nI (1000 + (y - nb))))]) (by decide) (Nat.le_of_ble_eq_true rfl) rfl ?_
    refine hz_iloadn (pc := 0) 2 (hz_dec kX12_bitsOf 0 rfl) rfl ?_
    refine hz_sipush (pc := 1) (v := nI 1000) (hz_dec kX12_bitsOf 1 rfl) (by decide) ?_
    refine hz_n_lt (pc := 4) (tgt := 20) (hz_dec kX12_bitsOf 2 rfl) (by decide) (by omega) (by omega) (fun h1 => ?_) (fun h1 => ?_)
    · skip
      exact absurd h1 (by omega)
    · skip
      refine hz_aloadn (pc := 7) 0 (hz_dec kX12_bitsOf 3 rfl) rfl ?_
      refine hz_get (pc := 8) (v := .ref (B + 41)) (hz_dec kX12_bitsOf 4 rfl) fo_X12_134 hO h8 (by omega) (hF.2 45 (by decide) (by decide)) ?_
      refine hz_iloadn (pc := 11) 2 (hz_dec kX12_bitsOf 5 rfl) rfl ?_
      refine hz_sipush (pc := 12) (v := nI 1000) (hz_dec kX12_bitsOf 6 rfl) (by decide) ?_
      refine hz_subN (pc := 15) (hz_dec kX12_bitsOf 7 rfl) (by omega) ?_
      refine hz_iald (pc := 16) (j := (1000 + (y - nb)) - 1000) (hz_dec kX12_bitsOf 8 rfl) hE.a41 (by omega) (by omega) rfl (by omega) (by decide) ?_
      refine hz_goto (pc := 17) (tgt := 30) (hz_dec kX12_bitsOf 9 rfl) (by decide) ?_
      exact hz_iret (pc := 30) (hz_dec kX12_bitsOf 16 rfl) rfl ⟨by rw [show 1000 + (y - nb) - 1000 = y - nb by omega, (hR1.2 (by omega)).2.2.2], rfl, rfl⟩
set_option maxHeartbeats 4000000 in
set_option maxRecDepth 100000 in
theorem c_mmid_i {κ : hz_C} {z : Nat} {M : hz_M} {B : Nat} (hO_ : md_O M B) (hE : mdE M B) (h8 : 8 ≤ B) (hz : B + 88 ≤ z) {P : hz_P} {tv : Int32} {nb y n v : Nat} : ∀ i f, i ≤ 10 → hz_W κ xX12_middleBehind 2 0 0 P 0 0 78 [(4, .int (nI (rx nb y))), (3, .int (nI n)), (0, .ref B), (1, .int (nI v))] [] z (va_up M (B + 42) (.inl (0, 11, .inl (insF tv i f)))) → hz_W κ xX12_middleBehind 2 0 0 P 0 0 28 [(6, .int (nI i)), (5, .int tv), (4, .int (nI (rx nb y))), (3, .int (nI n)), (0, .ref B), (1, .int (nI v))] [] z (va_up M (B + 42) (.inl (0, 11, .inl (f)))) := by
  obtain ⟨fs, hO, hF⟩ := id hO_
  intro i
  induction i with
  | zero =>
    intro f hi K
    refine hz_iload (pc := 28) 0 (hz_dec kX12_middleBehind 16 rfl) rfl ?_
    refine hz_z_le (pc := 30) (tgt := 69) (hz_dec kX12_middleBehind 17 rfl) (by decide) (by omega) (fun h1 => ?_) (fun h1 => ?_)
    · skip
      refine hz_aloadn (pc := 69) 4 (hz_dec kX12_middleBehind 38 rfl) rfl ?_
      refine hz_get (pc := 70) (v := .ref (B + 42)) (hz_dec kX12_middleBehind 39 rfl) fo_X12_137 (hz_mne hO (by omega)) h8 (by omega) (hF.2 46 (by decide) (by decide)) ?_
      refine hz_iload (pc := 73) 0 (hz_dec kX12_middleBehind 40 rfl) rfl ?_
      refine hz_iload (pc := 75) 1 (hz_dec kX12_middleBehind 41 rfl) rfl ?_
      refine hz_iast (pc := 77) (j := 0) (hz_dec kX12_middleBehind 42 rfl) (va_up_self _ _ _) (by omega) (by omega) rfl (by omega) (by decide) ?_
      refine hz_mem (pc := 78) (M2 := (va_up M (B + 42) (.inl (0, 11, .inl (upd f 0 ((tv))))))) (bx_uu _ _ _ _) ?_
      refine hz_pick (pc := 78) [2, 3, 4, 5] rfl ?_
      exact K
    · skip
      exact absurd h1 (by omega)
  | succ i ih =>
    intro f hi K
    refine hz_iload (pc := 28) 0 (hz_dec kX12_middleBehind 16 rfl) rfl ?_
    refine hz_z_le (pc := 30) (tgt := 69) (hz_dec kX12_middleBehind 17 rfl) (by decide) (by omega) (fun h1 => ?_) (fun h1 => ?_)
    · skip
      exact absurd h1 (by omega)
    · skip
      refine hz_aloadn (pc := 33) 4 (hz_dec kX12_middleBehind 18 rfl) rfl ?_
      refine hz_get (pc := 34) (v := .ref (B + 42)) (hz_dec kX12_middleBehind 19 rfl) fo_X12_137 (hz_mne hO (by omega)) h8 (by omega) (hF.2 46 (by decide) (by decide)) ?_
      refine hz_iload (pc := 37) 0 (hz_dec kX12_middleBehind 20 rfl) rfl ?_
      refine hz_iconst (pc := 39) (v := nI 1) (hz_dec kX12_middleBehind 21 rfl) (by decide) ?_
      refine hz_subN (pc := 40) (hz_dec kX12_middleBehind 22 rfl) (by omega) ?_
      refine hz_iald (pc := 41) (j := (i + 1) - 1) (hz_dec kX12_middleBehind 23 rfl) (va_up_self _ _ _) (by omega) (by omega) rfl (by omega) (by decide) ?_
      refine hz_eqi (pc := 42) (show f ((i + 1) - 1) = f i from rfl) ?_
      refine hz_iload (pc := 42) 1 (hz_dec kX12_middleBehind 24 rfl) rfl ?_
      refine hz_icmp_le (pc := 44) (tgt := 69) (hz_dec kX12_middleBehind 25 rfl) (by decide) (fun h2 => ?_) (fun h2 => ?_)
      · skip
        rw [insF, if_neg (Int32.not_lt.mpr h2)] at K
        refine hz_aloadn (pc := 69) 4 (hz_dec kX12_middleBehind 38 rfl) rfl ?_
        refine hz_get (pc := 70) (v := .ref (B + 42)) (hz_dec kX12_middleBehind 39 rfl) fo_X12_137 (hz_mne hO (by omega)) h8 (by omega) (hF.2 46 (by decide) (by decide)) ?_
        refine hz_iload (pc := 73) 0 (hz_dec kX12_middleBehind 40 rfl) rfl ?_
        refine hz_iload (pc := 75) 1 (hz_dec kX12_middleBehind 41 rfl) rfl ?_
        refine hz_iast (pc := 77) (j := i + 1) (hz_dec kX12_middleBehind 42 rfl) (va_up_self _ _ _) (by omega) (by omega) rfl (by omega) (by decide) ?_
        refine hz_mem (pc := 78) (M2 := (va_up M (B + 42) (.inl (0, 11, .inl (upd f (i + 1) ((tv))))))) (bx_uu _ _ _ _) ?_
        refine hz_pick (pc := 78) [2, 3, 4, 5] rfl ?_
        exact K
      · skip
        rw [insF, if_pos (Int32.not_le.mp h2)] at K
        refine hz_aloadn (pc := 47) 4 (hz_dec kX12_middleBehind 26 rfl) rfl ?_
        refine hz_get (pc := 48) (v := .ref (B + 42)) (hz_dec kX12_middleBehind 27 rfl) fo_X12_137 (hz_mne hO (by omega)) h8 (by omega) (hF.2 46 (by decide) (by decide)) ?_
        refine hz_iload (pc := 51) 0 (hz_dec kX12_middleBehind 28 rfl) rfl ?_
        refine hz_aloadn (pc := 53) 4 (hz_dec kX12_middleBehind 29 rfl) rfl ?_
        refine hz_get (pc := 54) (v := .ref (B + 42)) (hz_dec kX12_middleBehind 30 rfl) fo_X12_137 (hz_mne hO (by omega)) h8 (by omega) (hF.2 46 (by decide) (by decide)) ?_
        refine hz_iload (pc := 57) 0 (hz_dec kX12_middleBehind 31 rfl) rfl ?_
        refine hz_iconst (pc := 59) (v := nI 1) (hz_dec kX12_middleBehind 32 rfl) (by decide) ?_
        refine hz_subN (pc := 60) (hz_dec kX12_middleBehind 33 rfl) (by omega) ?_
        refine hz_iald (pc := 61) (j := (i + 1) - 1) (hz_dec kX12_middleBehind 34 rfl) (va_up_self _ _ _) (by omega) (by omega) rfl (by omega) (by decide) ?_
        refine hz_eqi (pc := 62) (show f ((i + 1) - 1) = f i from rfl) ?_
        refine hz_iast (pc := 62) (j := i + 1) (hz_dec kX12_middleBehind 35 rfl) (va_up_self _ _ _) (by omega) (by omega) rfl (by omega) (by decide) ?_
        refine hz_mem (pc := 63) (M2 := (va_up M (B + 42) (.inl (0, 11, .inl (upd f (i + 1) ((f i))))))) (bx_uu _ _ _ _) ?_
        refine hz_decN (pc := 63) (i := 6) (lo2 := [(6, .int (nI i)), (5, .int tv), (4, .int (nI (rx nb y))), (3, .int (nI n)), (0, .ref B), (1, .int (nI v))]) 0 (hz_dec kX12_middleBehind 36 rfl) rfl (by decide) rfl ?_
        refine hz_goto (pc := 66) (tgt := 28) (hz_dec kX12_middleBehind 37 rfl) (by decide) ?_
        refine hz_pick (pc := 28) [0, 1, 2, 3, 4, 5] rfl ?_
        exact ih _ (by omega) K
set_option maxHeartbeats 4000000 in
set_option maxRecDepth 100000 in
theorem c_mmid_o {κ : hz_C} {z : Nat} {M : hz_M} {B : Nat} (hO_ : md_O M B) (hE : mdE M B) (h8 : 8 ≤ B) (hz : B + 88 ≤ z) {v nb : Nat} {en : List en_E} (hv : v < 6) (hnb : nb ≤ 128) (hen : en.length ≤ nb + 16) (hR : rvX (fA M B) v nb en) (hwf : wfE en) {v9 : Int32} : ∀ m n p f, m + n = 11 → 1 ≤ (midF en m n p f).2 → (∀ x, p = some x → x < en.length) → (midF en m n p f).1 ((midF en m n p f).2 / 2) = v9 → hz_W κ xX12_middleBehind 2 0 0 (fun r z2 M2 => some (.int v9) = r ∧ z = z2 ∧ ∃ f : Nat → Int32, va_up M (B + 42) (.inl (0, 11, .inl f)) = M2) 0 0 5 [(4, .int (rpI nb p)), (3, .int (nI n)), (0, .ref B), (1, .int (nI v))] [] z (va_up M (B + 42) (.inl (0, 11, .inl (f)))) := by
  obtain ⟨fs, hO, hF⟩ := id hO_
  intro m
  induction m with
  | zero =>
    intro n p f hmn h1 hp hv9
    have e : n = 11 := by omega
    subst e
    refine hz_iloadn (pc := 5) 1 (hz_dec kX12_middleBehind 4 rfl) rfl ?_
    refine hz_bipush (pc := 6) (v := nI 11) (hz_dec kX12_middleBehind 5 rfl) (by decide) ?_
    refine hz_n_ge (pc := 8) (tgt := 93) (hz_dec kX12_middleBehind 6 rfl) (by decide) (by omega) (by omega) (fun h2 => ?_) (fun h2 => ?_)
    · skip
      refine hz_aloadn (pc := 93) 2 (hz_dec kX12_middleBehind 50 rfl) rfl ?_
      refine hz_get (pc := 94) (v := .ref (B + 42)) (hz_dec kX12_middleBehind 51 rfl) fo_X12_137 (hz_mne hO (by omega)) h8 (by omega) (hF.2 46 (by decide) (by decide)) ?_
      refine hz_iloadn (pc := 97) 1 (hz_dec kX12_middleBehind 52 rfl) rfl ?_
      refine hz_iconst (pc := 98) (v := nI 2) (hz_dec kX12_middleBehind 53 rfl) (by decide) ?_
      refine hz_divN (pc := 99) (hz_dec kX12_middleBehind 54 rfl) (by omega) (by decide) (by decide) ?_
      refine hz_iald (pc := 100) (j := 11 / 2) (hz_dec kX12_middleBehind 55 rfl) (va_up_self _ _ _) (by omega) (by omega) rfl (by omega) (by decide) ?_
      exact hz_iret (pc := 101) (hz_dec kX12_middleBehind 56 rfl) rfl ⟨congrArg (fun y => some (Value.int y)) hv9.symm, rfl, f, rfl⟩
    · skip
      exact absurd h2 (by omega)
  | succ m ih =>
    intro n p f hmn h1 hp hv9
    cases p with
    | none =>
      have h1b : 1 ≤ n := h1
      refine hz_iloadn (pc := 5) 1 (hz_dec kX12_middleBehind 4 rfl) rfl ?_
      refine hz_bipush (pc := 6) (v := nI 11) (hz_dec kX12_middleBehind 5 rfl) (by decide) ?_
      refine hz_n_ge (pc := 8) (tgt := 93) (hz_dec kX12_middleBehind 6 rfl) (by decide) (by omega) (by omega) (fun h2 => ?_) (fun h2 => ?_)
      · skip
        exact absurd h2 (by omega)
      · skip
        refine hz_iload (pc := 11) 0 (hz_dec kX12_middleBehind 7 rfl) rfl ?_
        refine hz_if_lt (pc := 13) (tgt := 93) (hz_dec kX12_middleBehind 8 rfl) (by decide) (fun h3 => ?_) (fun h3 => ?_)
        · skip
          refine hz_aloadn (pc := 93) 2 (hz_dec kX12_middleBehind 50 rfl) rfl ?_
          refine hz_get (pc := 94) (v := .ref (B + 42)) (hz_dec kX12_middleBehind 51 rfl) fo_X12_137 (hz_mne hO (by omega)) h8 (by omega) (hF.2 46 (by decide) (by decide)) ?_
          refine hz_iloadn (pc := 97) 1 (hz_dec kX12_middleBehind 52 rfl) rfl ?_
          refine hz_iconst (pc := 98) (v := nI 2) (hz_dec kX12_middleBehind 53 rfl) (by decide) ?_
          refine hz_divN (pc := 99) (hz_dec kX12_middleBehind 54 rfl) (by omega) (by decide) (by decide) ?_
          refine hz_iald (pc := 100) (j := n / 2) (hz_dec kX12_middleBehind 55 rfl) (va_up_self _ _ _) (by omega) (by omega) rfl (by omega) (by decide) ?_
          exact hz_iret (pc := 101) (hz_dec kX12_middleBehind 56 rfl) rfl ⟨congrArg (fun y => some (Value.int y)) hv9.symm, rfl, f, rfl⟩
        · skip
          exact absurd (show (-1 : Int32) < 0 by decide) h3
    | some y =>
      have hy := hp y rfl
      have hrx : rx nb y < 2000 := by unfold rx; split <;> omega
      have hfA : mfr B [] [42] M (va_up M (B + 42) (.inl (0, 11, .inl (f)))) := (mfr.rf hO_).upA (o := 42) rfl (by decide)
      have hE2 : mdE (va_up M (B + 42) (.inl (0, 11, .inl (f)))) B := hE.upA (by decide)
      have hR2 : rvX (fA (va_up M (B + 42) (.inl (0, 11, .inl (f)))) B) v nb en := by
        have e : ∀ o, ¬ o = 42 → fA (va_up M (B + 42) (.inl (0, 11, .inl (f)))) B o = fA M B o := fun o ho => fA_c (va_up_ne _ _ (by omega))
        intro q hq
        rw [e 26 (by decide), e 27 (by decide), e 28 (by decide), e 29 (by decide), e 38 (by decide), e 39 (by decide), e 40 (by decide), e 41 (by decide)]
        exact hR q hq
      refine hz_iloadn (pc := 5) 1 (hz_dec kX12_middleBehind 4 rfl) rfl ?_
      refine hz_bipush (pc := 6) (v := nI 11) (hz_dec kX12_middleBehind 5 rfl) (by decide) ?_
      refine hz_n_ge (pc := 8) (tgt := 93) (hz_dec kX12_middleBehind 6 rfl) (by decide) (by omega) (by omega) (fun h2 => ?_) (fun h2 => ?_)
      · skip
        exact absurd h2 (by omega)
      · skip
        refine hz_iload (pc := 11) 0 (hz_dec kX12_middleBehind 7 rfl) rfl ?_
        refine hz_z_lt (pc := 13) (tgt := 93) (hz_dec kX12_middleBehind 8 rfl) (by decide) (by omega) ?_
        refine hz_aloadn (pc := 16) 2 (hz_dec kX12_middleBehind 9 rfl) rfl ?_
        refine hz_iloadn (pc := 17) 3 (hz_dec kX12_middleBehind 10 rfl) rfl ?_
        refine hz_iload (pc := 18) 0 (hz_dec kX12_middleBehind 11 rfl) rfl ?_
        refine hz_xV (pc := 20) (a := B) (As := [.int (nI v), .int (nI (rx nb y))]) (st := []) (hz_dec kX12_middleBehind 12 rfl) co_X12_469 im_X12_timeOf se_X12_timeOf rfl (hz_mne hO (by omega)) h8 (by omega) (c_timeOf hfA.2.1 hE2 h8 hz hv hnb hen hR2 hy) rfl (by decide) ⟨Nat.le_refl _, Nat.le_refl _⟩ (Nat.le_of_ble_eq_true rfl) rfl ?_
        refine hz_istore (pc := 23) (i := 5) (lo2 := [(5, .int (eT en y)), (4, .int (nI (rx nb y))), (3, .int (nI n)), (0, .ref B), (1, .int (nI v))]) (hz_dec kX12_middleBehind 13 rfl) (by decide) rfl ?_
        refine hz_iloadn (pc := 25) 2 (hz_dec kX12_middleBehind 14 rfl) rfl ?_
        refine hz_istore (pc := 26) (i := 6) (lo2 := [(6, .int (nI n)), (5, .int (eT en y)), (4, .int (nI (rx nb y))), (3, .int (nI n)), (0, .ref B), (1, .int (nI v))]) (hz_dec kX12_middleBehind 15 rfl) (by decide) rfl ?_
        refine hz_pick (pc := 28) [0, 1, 2, 3, 4, 5] rfl ?_
        refine c_mmid_i hO_ hE h8 hz n f (by omega) ?_
        have hfB : mfr B [] [42] M (va_up M (B + 42) (.inl (0, 11, .inl (insF (eT en y) n f)))) := (mfr.rf hO_).upA (o := 42) rfl (by decide)
        have hE3 : mdE (va_up M (B + 42) (.inl (0, 11, .inl (insF (eT en y) n f)))) B := hE.upA (by decide)
        have hR3 : rvX (fA (va_up M (B + 42) (.inl (0, 11, .inl (insF (eT en y) n f)))) B) v nb en := by
          have e : ∀ o, ¬ o = 42 → fA (va_up M (B + 42) (.inl (0, 11, .inl (insF (eT en y) n f)))) B o = fA M B o := fun o ho => fA_c (va_up_ne _ _ (by omega))
          intro q hq
          rw [e 26 (by decide), e 27 (by decide), e 28 (by decide), e 29 (by decide), e 38 (by decide), e 39 (by decide), e 40 (by decide), e 41 (by decide)]
          exact hR q hq
        refine hz_incN (pc := 78) (i := 3) (lo2 := [(3, .int (nI (n + 1))), (4, .int (nI (rx nb y))), (0, .ref B), (1, .int (nI v))]) 1 (hz_dec kX12_middleBehind 43 rfl) rfl (by decide) rfl ?_
        refine hz_aloadn (pc := 81) 2 (hz_dec kX12_middleBehind 44 rfl) rfl ?_
        refine hz_iloadn (pc := 82) 3 (hz_dec kX12_middleBehind 45 rfl) rfl ?_
        refine hz_iload (pc := 83) 1 (hz_dec kX12_middleBehind 46 rfl) rfl ?_
        refine hz_xV (pc := 85) (a := B) (As := [.int (nI v), .int (nI (rx nb y))]) (st := []) (hz_dec kX12_middleBehind 47 rfl) co_X12_466 im_X12_prevOf se_X12_prevOf rfl (hz_mne hO (by omega)) h8 (by omega) (c_prevOf hfB.2.1 hE3 h8 hz hv hnb hen hR3 hy) rfl (by decide) ⟨Nat.le_refl _, Nat.le_refl _⟩ (Nat.le_of_ble_eq_true rfl) rfl ?_
        refine hz_istore (pc := 88) (i := 4) (lo2 := [(4, .int (rpI nb (eP en y))), (3, .int (nI (n + 1))), (0, .ref B), (1, .int (nI v))]) (hz_dec kX12_middleBehind 48 rfl) (by decide) rfl ?_
        refine hz_goto (pc := 90) (tgt := 5) (hz_dec kX12_middleBehind 49 rfl) (by decide) ?_
        refine hz_pick (pc := 5) [0, 1, 2, 3] rfl ?_
        refine ih (n + 1) (eP en y) _ (by omega) h1 (fun x hx => ?_) hv9
        have q := ((hwf y hy).1 x hx).1
        omega
set_option maxHeartbeats 4000000 in
set_option maxRecDepth 100000 in
theorem c_mmid {κ : hz_C} {z : Nat} {M : hz_M} {B : Nat} (hO_ : md_O M B) (hE : mdE M B) (h8 : 8 ≤ B) (hz : B + 88 ≤ z) {v nb : Nat} {en : List en_E} (hv : v < 6) (hnb : nb ≤ 128) (hen : en.length ≤ nb + 16) (hR : rvX (fA M B) v nb en) (hwf : wfE en) {y : Nat} (hy : y < en.length) : hz_Mt κ xX12_middleBehind 2 0 0 [.ref B, .int (nI v), .int (nI (rx nb y))] z M (fun r z2 M2 => some (.int (midE en y)) = r ∧ z = z2 ∧ ∃ f : Nat → Int32, va_up M (B + 42) (.inl (0, 11, .inl f)) = M2) := by
  refine hz_ent (lo := [(0, .ref B), (1, .int (nI v)), (2, .int (nI (rx nb y)))]) (by decide) (Nat.le_of_ble_eq_true rfl) rfl ?_
  obtain ⟨fs, hO, hF⟩ := id hO_
  refine hz_iconst (pc := 0) (v := nI 0) (hz_dec kX12_middleBehind 0 rfl) (by decide) ?_
  refine hz_istoren (pc := 1) (i := 3) (lo2 := [(3, .int (nI 0)), (0, .ref B), (1, .int (nI v)), (2, .int (nI (rx nb y)))]) (hz_dec kX12_middleBehind 1 rfl) rfl (by decide) rfl ?_
  refine hz_iloadn (pc := 2) 3 (hz_dec kX12_middleBehind 2 rfl) rfl ?_
  refine hz_istore (pc := 3) (i := 4) (lo2 := [(4, .int (nI (rx nb y))), (3, .int (nI 0)), (0, .ref B), (1, .int (nI v)), (2, .int (nI (rx nb y)))]) (hz_dec kX12_middleBehind 3 rfl) (by decide) rfl ?_
  refine hz_pick (pc := 5) [0, 1, 2, 3] rfl ?_
  refine hz_mem (pc := 5) (hz_upid hE.a42).symm ?_
  exact c_mmid_o hO_ hE h8 hz hv hnb hen hR hwf 11 0 (some y) _ rfl (by have q := (midF_le en 10 1 (eP en y) (insF (eT en y) 0 (fA M B 42))).1; exact q) (fun x hx => by cases hx; exact hy) midE_of
