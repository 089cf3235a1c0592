/-! the reference: dueBehind -/
theorem spL {a b : Int32} : (a.toInt64 - b.toInt64).toInt = a.toInt - b.toInt := by
  have h1 := a.toInt_lt
  have h2 := a.le_toInt
  have h3 := b.toInt_lt
  have h4 := b.le_toInt
  rw [Int64.toInt_sub, Int32.toInt_toInt64, Int32.toInt_toInt64, Int.bmod_eq_of_le (by omega) (by omega)]
set_option maxHeartbeats 4000000 in
set_option maxRecDepth 100000 in
theorem c_mdue_l {κ : hz_C} {z : Nat} {M : hz_M} {B : Nat} (hO_ : md_O M B) (hE : mdE M B) (h8 : 8 ≤ B) (hz : B + 88 ≤ z) {v nb : Nat} {en : List en_E} (hv : v < 6) (hnb : nb ≤ 128) (hen : en.length ≤ nb + 16) (hR : rvX (fA M B) v nb en) (hwf : wfE en) {y : Nat} (hy : y < en.length) (h16 : (eH en y + 1) % 16 = 0) : ∀ k i, k = 15 - i → i ≤ 15 → hz_W κ xX12_dueBehind 3 0 0 (fun r z2 M2 => some (.int (dueE en y)) = r ∧ z = z2 ∧ frl B [10, 11] M M2 ∧ md_t B M2) 0 0 29 [(5, .int (nI i)), (4, .int (nI (rx nb (upE en y i)))), (0, .ref B), (1, .int (nI v)), (2, .int (nI (rx nb y)))] [] z M := by
  intro k
  induction k using Nat.strongRecOn with
  | ind k ih =>
  intro i hk hi
  obtain ⟨fs, hO, hF⟩ := id hO_
  have hup := hwf.up hy i (by omega)
  have hwy := hwf y hy
  have hrx : ∀ q, q < en.length → rx nb q < 2000 := by intro q hq; unfold rx; split <;> omega
  have hr1 := hrx y hy
  have hr2 := hrx (upE en y i) (by omega)
  refine hz_iload (pc := 29) 0 (hz_dec kX12_dueBehind 20 rfl) rfl ?_
  refine hz_bipush (pc := 31) (v := nI 15) (hz_dec kX12_dueBehind 21 rfl) (by decide) ?_
  refine hz_n_ge (pc := 33) (tgt := 51) (hz_dec kX12_dueBehind 22 rfl) (by decide) (by omega) (by omega) (fun h1 => ?_) (fun h1 => ?_)
  · skip
    have e : i = 15 := by omega
    subst e
    refine hz_pick (pc := 51) [1, 2, 3, 4] rfl ?_
    have r1 := (tgR_b hwy.2.2.2).1
    have r2 := (tgR_b hwy.2.2.2).2.1
    have hsp := spE_le en y
    have hw15 := hwf (upE en y 15) (by omega)
    refine hz_aloadn (pc := 51) 1 (hz_dec kX12_dueBehind 30 rfl) rfl ?_
    refine hz_iloadn (pc := 52) 2 (hz_dec kX12_dueBehind 31 rfl) rfl ?_
    refine hz_iloadn (pc := 53) 3 (hz_dec kX12_dueBehind 32 rfl) rfl ?_
    refine hz_xV (pc := 54) (a := B) (As := [.int (nI v), .int (nI (rx nb y))]) (st := []) (hz_dec kX12_dueBehind 33 rfl) co_X12_469 im_X12_timeOf se_X12_timeOf rfl hO h8 (by omega) (c_timeOf hO_ hE h8 hz hv hnb hen hR (y := y) hy) rfl (by decide) ⟨Nat.le_refl _, Nat.le_refl _⟩ (Nat.le_of_ble_eq_true rfl) rfl ?_
    refine hz_i2l (pc := 57) (hz_dec kX12_dueBehind 34 rfl) ?_
    refine hz_aloadn (pc := 58) 1 (hz_dec kX12_dueBehind 35 rfl) rfl ?_
    refine hz_iloadn (pc := 59) 2 (hz_dec kX12_dueBehind 36 rfl) rfl ?_
    refine hz_iload (pc := 60) 0 (hz_dec kX12_dueBehind 37 rfl) rfl ?_
    refine hz_xV (pc := 62) (a := B) (As := [.int (nI v), .int (nI (rx nb (upE en y 15)))]) (st := [.long ((eT en y).toInt64)]) (hz_dec kX12_dueBehind 38 rfl) co_X12_469 im_X12_timeOf se_X12_timeOf rfl hO h8 (by omega) (c_timeOf hO_ hE h8 hz hv hnb hen hR (y := upE en y 15) (by omega)) rfl (by decide) ⟨Nat.le_refl _, Nat.le_refl _⟩ (Nat.le_of_ble_eq_true rfl) rfl ?_
    refine hz_i2l (pc := 65) (hz_dec kX12_dueBehind 39 rfl) ?_
    refine hz_lsub (pc := 66) (hz_dec kX12_dueBehind 40 rfl) ?_
    refine hz_topl (pc := 67) (fun D hD => ?_)
    have hDi : D.toInt = (eT en y).toInt - (eT en (upE en y 15)).toInt := by rw [hD]; exact spL
    refine hz_lstore (pc := 67) (i := 5) (lo2 := [(5, .long D), (4, .int (nI (rx nb (upE en y 15)))), (0, .ref B), (1, .int (nI v)), (2, .int (nI (rx nb y)))]) (hz_dec kX12_dueBehind 41 rfl) (by decide) rfl ?_
    refine hz_aloadn (pc := 69) 2 (hz_dec kX12_dueBehind 42 rfl) rfl ?_
    refine hz_aloadn (pc := 70) 2 (hz_dec kX12_dueBehind 43 rfl) rfl ?_
    refine hz_iloadn (pc := 71) 3 (hz_dec kX12_dueBehind 44 rfl) rfl ?_
    refine hz_iloadn (pc := 72) 4 (hz_dec kX12_dueBehind 45 rfl) rfl ?_
    refine hz_xV (pc := 73) (a := B) (As := [.int (nI v), .int (nI (rx nb y))]) (st := [.ref B]) (hz_dec kX12_dueBehind 46 rfl) co_X12_463 im_X12_bitsOf se_X12_bitsOf rfl hO h8 (by omega) (c_bitsOf hO_ hE h8 hz hv hnb hen hR (y := y) hy) rfl (by decide) ⟨Nat.le_refl _, Nat.le_refl _⟩ (Nat.le_of_ble_eq_true rfl) rfl ?_
    refine hz_lload (pc := 76) 0 (hz_dec kX12_dueBehind 47 rfl) rfl ?_
    refine hz_ldc2 (pc := 78) (v := (40)) (hz_dec kX12_dueBehind 48 rfl) ks_X12_472 ?_
    refine hz_lcmp (pc := 81) (hz_dec kX12_dueBehind 49 rfl) ?_
    refine hz_if_ge (pc := 82) (tgt := 90) (hz_dec kX12_dueBehind 50 rfl) (by decide) (fun h3 => ?_) (fun h3 => ?_)
    · skip
      refine hz_lload (pc := 90) 0 (hz_dec kX12_dueBehind 53 rfl) rfl ?_
      refine hz_ldc2 (pc := 92) (v := (640)) (hz_dec kX12_dueBehind 54 rfl) ks_X12_474 ?_
      refine hz_lcmp (pc := 95) (hz_dec kX12_dueBehind 55 rfl) ?_
      refine hz_if_le (pc := 96) (tgt := 105) (hz_dec kX12_dueBehind 56 rfl) (by decide) (fun h4 => ?_) (fun h4 => ?_)
      · skip
        refine hz_lload (pc := 105) 0 (hz_dec kX12_dueBehind 59 rfl) rfl ?_
        refine hz_l2i (pc := 107) (hz_dec kX12_dueBehind 60 rfl) ?_
        refine hz_eqi (pc := 108) (show D.toInt32 = nI (spE en y) from by unfold spE; rw [← hDi]; have q := (lg_cmp_le D 640).mp h4; have q1 := (lg_cmp_ge D 40).mp h3; rw [Int64.le_iff_toInt_le, show (640 : Int64).toInt = 640 from rfl] at q; rw [Int64.le_iff_toInt_le, show (40 : Int64).toInt = 40 from rfl] at q1; apply Int32.toInt_inj.mp; rw [nI_toInt (by omega), Int64.toInt_toInt32, Int.bmod_eq_of_le (by omega) (by omega)]; omega) ?_
        refine hz_callV (pc := 108) (a := B) (As := [.int (eB en y), .int (nI (spE en y))]) (st := []) (hz_dec kX12_dueBehind 61 rfl) co_X12_476 im_X12_moved se_X12_moved rfl hO h8 (by omega) (c_moved hO hF h8 hz hE.t (by omega) r2 (by omega) (tgR_b hwy.2.2.2).2.2) rfl (by decide) ⟨Nat.le_refl _, Nat.le_refl _⟩ (Nat.le_of_ble_eq_true rfl) rfl (fun r9 z9 M2 hp9 => ?_)
        obtain ⟨rfl, rfl, hf2, ht2, -⟩ := hp9
        exact hz_iret (pc := 111) (hz_dec kX12_dueBehind 62 rfl) rfl ⟨by unfold dueE; rw [if_pos h16], rfl, hf2, ht2⟩
      · skip
        refine hz_sipush (pc := 99) (v := nI 640) (hz_dec kX12_dueBehind 57 rfl) (by decide) ?_
        refine hz_goto (pc := 102) (tgt := 108) (hz_dec kX12_dueBehind 58 rfl) (by decide) ?_
        refine hz_eqi (pc := 108) (show nI 640 = nI (spE en y) from by unfold spE; rw [← hDi]; have q := mt (lg_cmp_le D 640).mpr h4; rw [Int64.le_iff_toInt_le, show (640 : Int64).toInt = 640 from rfl] at q; congr 1; omega) ?_
        refine hz_callV (pc := 108) (a := B) (As := [.int (eB en y), .int (nI (spE en y))]) (st := []) (hz_dec kX12_dueBehind 61 rfl) co_X12_476 im_X12_moved se_X12_moved rfl hO h8 (by omega) (c_moved hO hF h8 hz hE.t (by omega) r2 (by omega) (tgR_b hwy.2.2.2).2.2) rfl (by decide) ⟨Nat.le_refl _, Nat.le_refl _⟩ (Nat.le_of_ble_eq_true rfl) rfl (fun r9 z9 M2 hp9 => ?_)
        obtain ⟨rfl, rfl, hf2, ht2, -⟩ := hp9
        exact hz_iret (pc := 111) (hz_dec kX12_dueBehind 62 rfl) rfl ⟨by unfold dueE; rw [if_pos h16], rfl, hf2, ht2⟩
    · skip
      refine hz_bipush (pc := 85) (v := nI 40) (hz_dec kX12_dueBehind 51 rfl) (by decide) ?_
      refine hz_goto (pc := 87) (tgt := 108) (hz_dec kX12_dueBehind 52 rfl) (by decide) ?_
      refine hz_eqi (pc := 108) (show nI 40 = nI (spE en y) from by unfold spE; rw [← hDi]; have q := mt (lg_cmp_ge D 40).mpr h3; rw [Int64.le_iff_toInt_le, show (40 : Int64).toInt = 40 from rfl] at q; congr 1; omega) ?_
      refine hz_callV (pc := 108) (a := B) (As := [.int (eB en y), .int (nI (spE en y))]) (st := []) (hz_dec kX12_dueBehind 61 rfl) co_X12_476 im_X12_moved se_X12_moved rfl hO h8 (by omega) (c_moved hO hF h8 hz hE.t (by omega) r2 (by omega) (tgR_b hwy.2.2.2).2.2) rfl (by decide) ⟨Nat.le_refl _, Nat.le_refl _⟩ (Nat.le_of_ble_eq_true rfl) rfl (fun r9 z9 M2 hp9 => ?_)
      obtain ⟨rfl, rfl, hf2, ht2, -⟩ := hp9
      exact hz_iret (pc := 111) (hz_dec kX12_dueBehind 62 rfl) rfl ⟨by unfold dueE; rw [if_pos h16], rfl, hf2, ht2⟩
  · skip
    refine hz_aloadn (pc := 36) 2 (hz_dec kX12_dueBehind 23 rfl) rfl ?_
    refine hz_iloadn (pc := 37) 3 (hz_dec kX12_dueBehind 24 rfl) rfl ?_
    refine hz_iload (pc := 38) 1 (hz_dec kX12_dueBehind 25 rfl) rfl ?_
    refine hz_xV (pc := 40) (a := B) (As := [.int (nI v), .int (nI (rx nb (upE en y i)))]) (st := []) (hz_dec kX12_dueBehind 26 rfl) co_X12_466 im_X12_prevOf se_X12_prevOf rfl hO h8 (by omega) (c_prevOf hO_ hE h8 hz hv hnb hen hR (y := upE en y i) (by omega)) rfl (by decide) ⟨Nat.le_refl _, Nat.le_refl _⟩ (Nat.le_of_ble_eq_true rfl) rfl ?_
    refine hz_eqi (pc := 43) (show _ = nI (rx nb (upE en y (i + 1))) by rw [hwf.pv hy (by omega)]; rfl) ?_
    refine hz_istore (pc := 43) (i := 4) (lo2 := [(4, .int (nI (rx nb (upE en y (i + 1))))), (5, .int (nI i)), (0, .ref B), (1, .int (nI v)), (2, .int (nI (rx nb y)))]) (hz_dec kX12_dueBehind 27 rfl) (by decide) rfl ?_
    refine hz_incN (pc := 45) (i := 5) (lo2 := [(5, .int (nI (i + 1))), (4, .int (nI (rx nb (upE en y (i + 1))))), (0, .ref B), (1, .int (nI v)), (2, .int (nI (rx nb y)))]) 1 (hz_dec kX12_dueBehind 28 rfl) rfl (by decide) rfl ?_
    refine hz_goto (pc := 48) (tgt := 29) (hz_dec kX12_dueBehind 29 rfl) (by decide) ?_
    refine hz_pick (pc := 29) [0, 1, 2, 3, 4] rfl ?_
    exact ih (15 - (i + 1)) (by omega) (i + 1) rfl (by omega)
set_option maxHeartbeats 4000000 in
set_option maxRecDepth 100000 in
theorem c_mdue {κ : hz_C} {z : Nat} {M : hz_M} {B : Nat} (hO_ : md_O M B) (hE : mdE M B) (h8 : 8 ≤ B) (hz : B + 88 ≤ z) {v nb : Nat} {en : List en_E} (hv : v < 6) (hnb : nb ≤ 128) (hen : en.length ≤ nb + 16) (hR : rvX (fA M B) v nb en) (hwf : wfE en) {y : Nat} (hy : y < en.length) : hz_Mt κ xX12_dueBehind 3 0 0 [.ref B, .int (nI v), .int (nI (rx nb y))] z M (fun r z2 M2 => some (.int (dueE en y)) = r ∧ z = z2 ∧ frl B [10, 11] M M2 ∧ md_t B M2) := by
  refine hz_ent (lo := [(0, .ref B), (1, .int (nI v)), (2, .int (nI (rx nb y)))]) (by decide) (Nat.le_of_ble_eq_true rfl) rfl ?_
  obtain ⟨fs, hO, hF⟩ := id hO_
  have hye := hwf.ht hy
  refine hz_aloadn (pc := 0) 0 (hz_dec kX12_dueBehind 0 rfl) rfl ?_
  refine hz_iloadn (pc := 1) 1 (hz_dec kX12_dueBehind 1 rfl) rfl ?_
  refine hz_iloadn (pc := 2) 2 (hz_dec kX12_dueBehind 2 rfl) rfl ?_
  refine hz_xV (pc := 3) (a := B) (As := [.int (nI v), .int (nI (rx nb y))]) (st := []) (hz_dec kX12_dueBehind 3 rfl) co_X12_460 im_X12_heightOf se_X12_heightOf rfl hO h8 (by omega) (c_heightOf hO_ hE h8 hz hv hnb hen hR (y := y) hy) rfl (by decide) ⟨Nat.le_refl _, Nat.le_refl _⟩ (Nat.le_of_ble_eq_true rfl) rfl ?_
  refine hz_istoren (pc := 6) (i := 3) (lo2 := [(3, .int (nI (eH en y))), (0, .ref B), (1, .int (nI v)), (2, .int (nI (rx nb y)))]) (hz_dec kX12_dueBehind 4 rfl) rfl (by decide) rfl ?_
  refine hz_iloadn (pc := 7) 0 (hz_dec kX12_dueBehind 5 rfl) rfl ?_
  refine hz_iconst (pc := 8) (v := nI 1) (hz_dec kX12_dueBehind 6 rfl) (by decide) ?_
  refine hz_addN (pc := 9) (hz_dec kX12_dueBehind 7 rfl) ?_
  refine hz_bipush (pc := 10) (v := nI 16) (hz_dec kX12_dueBehind 8 rfl) (by decide) ?_
  refine hz_remN (pc := 12) (hz_dec kX12_dueBehind 9 rfl) (by omega) (by decide) (by decide) ?_
  refine hz_z_eq (pc := 13) (tgt := 23) (hz_dec kX12_dueBehind 10 rfl) (by decide) (by omega) (fun h2 => ?_) (fun h2 => ?_)
  · skip
    refine hz_iloadn (pc := 23) 3 (hz_dec kX12_dueBehind 16 rfl) rfl ?_
    refine hz_istore (pc := 24) (i := 4) (lo2 := [(4, .int (nI (rx nb y))), (3, .int (nI (eH en y))), (0, .ref B), (1, .int (nI v)), (2, .int (nI (rx nb y)))]) (hz_dec kX12_dueBehind 17 rfl) (by decide) rfl ?_
    refine hz_iconst (pc := 26) (v := nI 0) (hz_dec kX12_dueBehind 18 rfl) (by decide) ?_
    refine hz_istore (pc := 27) (i := 5) (lo2 := [(5, .int (nI 0)), (4, .int (nI (rx nb y))), (3, .int (nI (eH en y))), (0, .ref B), (1, .int (nI v)), (2, .int (nI (rx nb y)))]) (hz_dec kX12_dueBehind 19 rfl) (by decide) rfl ?_
    refine hz_pick (pc := 29) [0, 1, 3, 4, 5] rfl ?_
    exact c_mdue_l hO_ hE h8 hz hv hnb hen hR hwf hy h2 15 0 rfl (by omega)
  · skip
    refine hz_aloadn (pc := 16) 1 (hz_dec kX12_dueBehind 11 rfl) rfl ?_
    refine hz_iloadn (pc := 17) 2 (hz_dec kX12_dueBehind 12 rfl) rfl ?_
    refine hz_iloadn (pc := 18) 3 (hz_dec kX12_dueBehind 13 rfl) rfl ?_
    refine hz_xV (pc := 19) (a := B) (As := [.int (nI v), .int (nI (rx nb y))]) (st := []) (hz_dec kX12_dueBehind 14 rfl) co_X12_463 im_X12_bitsOf se_X12_bitsOf rfl hO h8 (by omega) (c_bitsOf hO_ hE h8 hz hv hnb hen hR (y := y) hy) rfl (by decide) ⟨Nat.le_refl _, Nat.le_refl _⟩ (Nat.le_of_ble_eq_true rfl) rfl ?_
    exact hz_iret (pc := 22) (hz_dec kX12_dueBehind 15 rfl) rfl ⟨by unfold dueE; rw [if_neg (by omega)], rfl, frl.rf, hE.t⟩
