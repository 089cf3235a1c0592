/-! a block is judged -/
def rwB (l : by_L) (j : Nat) : Bool := decide (¬ (txI (bkT l j) = 0 ↔ j = 0))
def rwS (l : by_L) : Bool := decide (fsI (rwB l) (bkN l) = bkN l)
def rtS (l : by_L) : by_L := rtF 8 (fun q => hhS (bkT l q)) (bkN l)
def pvF (bl : List bk_B) (l : by_L) : Nat := blF bl (subL l 0 32)
def jBk (bl : List bk_B) (en : List en_E) (l : by_L) (nr : Bool) : Nat :=
  if bkN l = 0 then 1 else if blF bl (haS l) < bl.length then 2 else if wkS (hdS l) = false then 3 else if ¬ rtS l = subL l 32 32 then 4 else if rwS l = false then 5
  else if ¬ pvF bl l < bl.length then 6 else if ¬ bn_int (lf l) 68 = dueE en (pvF bl l) then 7 else if bn_int (lf l) 64 ≤ midE en (pvF bl l) then 8
  else if ¬ bn_int (lf l) (bkS l 0 + 2) = nI (eH en (pvF bl l) + 1) then 9 else if jPa l (eH en (pvF bl l) + 1) (coAt bl en (pvF bl l)) = 0 ∧ nr = true then 15
  else jPa l (eH en (pvF bl l) + 1) (coAt bl en (pvF bl l))
def ndO (nb : Nat) (nu up nx fu rc rf : Int32) : va_E := .inr (6, [.int nu, .int up, .ref (nb + 1), .int nx, .int fu, .ref (nb + 21), .ref (nb + 2), .ref (nb + 10), .ref (nb + 13), .ref (nb + 14), .ref (nb + 15), .ref (nb + 18), .int rc, .int rf])
/-- the judge and what it works with stand -/
def juS (M : hz_M) (z : Nat) : Prop := (∃ bf fe, juO M bf fe) ∧ (∃ s : Nat → Int32, M 34 = .inl (0, 9, .inl s)) ∧ (∃ r : Nat → Int32, M 35 = .inl (1, 256, .inl r)) ∧ (∃ g : Nat → Int32, M 36 = .inl (1, 2947, .inl g)) ∧ (∃ h : Nat → Int32, M 37 = .inl (1, 32, .inl h)) ∧ (∃ i : Nat → Int64, M 38 = .inl (2, 8, .inr (.inl i))) ∧ (∃ cs, coR M 26 cs) ∧ ck_k M z ∧ ck_s M ∧ ck_w M
theorem hdS_A {f : Nat → Int32} {l : by_L} (h : isA f 0 l) (hl : 80 ≤ l.length) : isA f 0 (hdS l) := isA_sub (i := 0) h (by omega)
theorem hdS_len (l : by_L) : (hdS l).length = 80 := subL_len _ _ _
theorem hdS_68 {l : by_L} : bn_int (lf (hdS l)) 68 = bn_int (lf l) 68 := bn_int_c (fun i hi => by unfold hdS; rw [lf_subL (by omega), Nat.zero_add])
/-- room on the disk -/
def nrB (nx n : Nat) (od : Bool) : Bool := od && decide (12288 < nx + n + 8)
set_option maxHeartbeats 4000000 in
set_option maxRecDepth 100000 in
theorem c_room {κ : hz_C} {z : Nat} {M : hz_M} {nb nx n : Nat} {nu up fu rc rf : Int32} (hN : M nb = ndO nb nu up (nI nx) fu rc rf) (h8 : 8 ≤ nb) (hz : nb < z) (h1 : nx < 100000) (h2 : n < 100000) : hz_Mt κ xX6_hasRoomFor 0 0 0 [.ref nb, .int (nI n)] z M (hz_ex (some (.int (hz_b (decide (nx + n + 8 ≤ 12288))))) z M) := by
  refine hz_ent (lo := [(0, .ref nb), (1, .int (nI n))]) (by decide) (Nat.le_of_ble_eq_true rfl) rfl ?_
  refine hz_aloadn (pc := 0) 0 (hz_dec kX6_hasRoomFor 0 rfl) rfl ?_
  refine hz_get (pc := 1) (hz_dec kX6_hasRoomFor 1 rfl) fo_X6_75 hN h8 hz rfl ?_
  refine hz_iloadn (pc := 4) 1 (hz_dec kX6_hasRoomFor 2 rfl) rfl ?_
  refine hz_addN (pc := 5) (hz_dec kX6_hasRoomFor 3 rfl) ?_
  refine hz_bipush (pc := 6) (v := nI 6) (hz_dec kX6_hasRoomFor 4 rfl) (by decide) ?_
  refine hz_addN (pc := 8) (hz_dec kX6_hasRoomFor 5 rfl) ?_
  refine hz_iconst (pc := 9) (v := nI 2) (hz_dec kX6_hasRoomFor 6 rfl) (by decide) ?_
  refine hz_addN (pc := 10) (hz_dec kX6_hasRoomFor 7 rfl) ?_
  refine hz_sipush (pc := 11) (v := nI 12288) (hz_dec kX6_hasRoomFor 8 rfl) (by decide) ?_
  refine hz_n_gt (pc := 14) (tgt := 21) (hz_dec kX6_hasRoomFor 9 rfl) (by decide) (by omega) (by omega) (fun q1 => ?_) (fun q1 => ?_)
  · skip
    refine hz_iconst (pc := 21) (v := nI 0) (hz_dec kX6_hasRoomFor 12 rfl) (by decide) ?_
    exact hz_zret (pc := 22) (hz_dec kX6_hasRoomFor 13 rfl) rfl rfl ⟨by rw [decide_eq_false (by omega)]; rfl, rfl, rfl⟩
  · skip
    refine hz_iconst (pc := 17) (v := nI 1) (hz_dec kX6_hasRoomFor 10 rfl) (by decide) ?_
    refine hz_goto (pc := 18) (tgt := 22) (hz_dec kX6_hasRoomFor 11 rfl) (by decide) ?_
    exact hz_zret (pc := 22) (hz_dec kX6_hasRoomFor 13 rfl) rfl rfl ⟨by rw [decide_eq_true (by omega)]; rfl, rfl, rfl⟩
set_option maxHeartbeats 4000000 in
set_option maxRecDepth 100000 in
theorem c_ofb_r {κ : hz_C} {z : Nat} {M : hz_M} {b n : Nat} {f s : Nat → Int32} {l : by_L} (hz : 63 ≤ z) (hB : M b = .inl (1, n, .inl f)) (hb8 : 39 ≤ b) (hbz : b < z) (hn : n < 2 ^ 24) (hA : isA f 0 l) (hln : l.length ≤ n) (hW : blW l) {bf : Int32} {fe : Int64} (hj : juO M bf fe) (h34 : M 34 = .inl (0, 9, .inl s)) (hs : ∀ j, j ≤ bkN l → s j = nI (bkS l j)) {nb od : Nat} {P : hz_P} (hP : rwS l = false → P (some (.int (nI 5))) z M) (K : rwS l = true → hz_W κ xX3_ofBlock 5 0 0 P 0 0 129 [(0, .ref 25), (1, .ref nb), (2, .ref b), (3, .int (nI (l.length))), (4, .int (nI od)), (5, .ref (nb + 21)), (6, .int (nI (bkN l)))] [] z M) : ∀ k j, k = bkN l - j → j ≤ bkN l → (∀ i, i < j → rwB l i = false) → hz_W κ xX3_ofBlock 5 0 0 P 0 0 82 [(8, .int (nI j)), (0, .ref 25), (1, .ref nb), (2, .ref b), (3, .int (nI (l.length))), (4, .int (nI od)), (5, .ref (nb + 21)), (6, .int (nI (bkN l)))] [] z M := by
  intro k
  induction k using Nat.strongRecOn with
  | ind k ih =>
  intro j hk hjn hno
  obtain ⟨hbf1, hbf2, hbf3, hbf4, hbf5, hbf6, hbf7⟩ := hW.f
  refine hz_iload (pc := 82) 0 (hz_dec kX3_ofBlock 46 rfl) rfl ?_
  refine hz_iload (pc := 84) 7 (hz_dec kX3_ofBlock 47 rfl) rfl ?_
  refine hz_n_ge (pc := 86) (tgt := 129) (hz_dec kX3_ofBlock 48 rfl) (by decide) (by omega) (by omega) (fun h1 => ?_) (fun h1 => ?_)
  · skip
    have e : j = bkN l := by omega
    refine hz_pick (pc := 129) [1, 2, 3, 4, 5, 6, 7] rfl ?_
    exact K (decide_eq_true (by have r := fsI_no (p := rwB l) j hno; rw [e] at r; exact r))
  · skip
    have tj := hW.t (j := j) (by omega)
    have tA := hW.A hA (j := j) (by omega)
    rw [Nat.zero_add] at tA
    have tl := txW_len tj.2.1
    obtain ⟨w1, -⟩ := txW_sz tj.2.1
    refine hz_aloadn (pc := 89) 3 (hz_dec kX3_ofBlock 49 rfl) rfl ?_
    refine hz_aloadn (pc := 90) 1 (hz_dec kX3_ofBlock 50 rfl) rfl ?_
    refine hz_get (pc := 91) (hz_dec kX3_ofBlock 51 rfl) fo_X3_18 hj (by omega) (by omega) rfl ?_
    refine hz_iload (pc := 94) 0 (hz_dec kX3_ofBlock 52 rfl) rfl ?_
    refine hz_iald (pc := 96) (j := j) (hz_dec kX3_ofBlock 53 rfl) h34 (by omega) (by omega) rfl (by omega) (by decide) ?_
    refine hz_eqi (pc := 97) (hs (j) (by omega)) ?_
    refine hz_xS (pc := 97) (As := [.ref b, .int (nI (bkS l (j)))]) (st := []) (hz_dec kX3_ofBlock 54 rfl) co_X3_111 sc_X0_one (c_one hB (by omega) hbz (by omega) (by omega)) rfl (by decide) ⟨Nat.le_refl _, Nat.le_refl _⟩ (Nat.le_of_ble_eq_true rfl) rfl ?_
    refine hz_eqi (pc := 100) (show _ = nI (txI (bkT l j)) by have q := tA 0 (by omega); rw [Nat.add_zero] at q; rw [q]; rfl) ?_
    refine hz_z_ne (pc := 100) (tgt := 107) (hz_dec kX3_ofBlock 55 rfl) (by decide) (by omega) (fun h2 => ?_) (fun h2 => ?_)
    · skip
      refine hz_iconst (pc := 107) (v := nI 0) (hz_dec kX3_ofBlock 58 rfl) (by decide) ?_
      refine hz_iload (pc := 108) 0 (hz_dec kX3_ofBlock 59 rfl) rfl ?_
      refine hz_z_ne (pc := 110) (tgt := 117) (hz_dec kX3_ofBlock 60 rfl) (by decide) (by omega) (fun h3 => ?_) (fun h3 => ?_)
      · skip
        refine hz_iconst (pc := 117) (v := nI 0) (hz_dec kX3_ofBlock 63 rfl) (by decide) ?_
        refine hz_n_eq (pc := 118) (tgt := 123) (hz_dec kX3_ofBlock 64 rfl) (by decide) (by omega) (by omega) (fun h4 => ?_) (fun h4 => ?_)
        · skip
          refine hz_incN (pc := 123) (i := 8) (lo2 := [(8, .int (nI (j + 1))), (0, .ref 25), (1, .ref nb), (2, .ref b), (3, .int (nI (l.length))), (4, .int (nI od)), (5, .ref (nb + 21)), (6, .int (nI (bkN l)))]) 0 (hz_dec kX3_ofBlock 67 rfl) rfl (by decide) rfl ?_
          refine hz_goto (pc := 126) (tgt := 82) (hz_dec kX3_ofBlock 68 rfl) (by decide) ?_
          refine hz_pick (pc := 82) [0, 1, 2, 3, 4, 5, 6, 7] rfl ?_
          refine ih (bkN l - (j + 1)) (by omega) (j + 1) rfl (by omega) (fun i hi => ?_)
          rcases (show i = j ∨ i < j by omega) with e | c9
          · subst e; exact decide_eq_false (fun q => q (⟨fun q => by omega, fun q => by omega⟩))
          · exact hno i c9
        · skip
          exact absurd h4 (by omega)
      · skip
        refine hz_iconst (pc := 113) (v := nI 1) (hz_dec kX3_ofBlock 61 rfl) (by decide) ?_
        refine hz_goto (pc := 114) (tgt := 118) (hz_dec kX3_ofBlock 62 rfl) (by decide) ?_
        refine hz_n_eq (pc := 118) (tgt := 123) (hz_dec kX3_ofBlock 64 rfl) (by decide) (by omega) (by omega) (fun h4 => ?_) (fun h4 => ?_)
        · skip
          exact absurd h4 (by omega)
        · skip
          refine hz_iconst (pc := 121) (v := nI 5) (hz_dec kX3_ofBlock 65 rfl) (by decide) ?_
          exact hz_iret (pc := 122) (hz_dec kX3_ofBlock 66 rfl) rfl (hP (decide_eq_false (fun q => by have r := fsI_at (p := rwB l) (i := j) (decide_eq_true (fun q9 => by omega)) hno (bkN l) h1; omega)))
    · skip
      refine hz_iconst (pc := 103) (v := nI 1) (hz_dec kX3_ofBlock 56 rfl) (by decide) ?_
      refine hz_goto (pc := 104) (tgt := 108) (hz_dec kX3_ofBlock 57 rfl) (by decide) ?_
      refine hz_iload (pc := 108) 0 (hz_dec kX3_ofBlock 59 rfl) rfl ?_
      refine hz_z_ne (pc := 110) (tgt := 117) (hz_dec kX3_ofBlock 60 rfl) (by decide) (by omega) (fun h3 => ?_) (fun h3 => ?_)
      · skip
        refine hz_iconst (pc := 117) (v := nI 0) (hz_dec kX3_ofBlock 63 rfl) (by decide) ?_
        refine hz_n_eq (pc := 118) (tgt := 123) (hz_dec kX3_ofBlock 64 rfl) (by decide) (by omega) (by omega) (fun h4 => ?_) (fun h4 => ?_)
        · skip
          exact absurd h4 (by omega)
        · skip
          refine hz_iconst (pc := 121) (v := nI 5) (hz_dec kX3_ofBlock 65 rfl) (by decide) ?_
          exact hz_iret (pc := 122) (hz_dec kX3_ofBlock 66 rfl) rfl (hP (decide_eq_false (fun q => by have r := fsI_at (p := rwB l) (i := j) (decide_eq_true (fun q9 => by omega)) hno (bkN l) h1; omega)))
      · skip
        refine hz_iconst (pc := 113) (v := nI 1) (hz_dec kX3_ofBlock 61 rfl) (by decide) ?_
        refine hz_goto (pc := 114) (tgt := 118) (hz_dec kX3_ofBlock 62 rfl) (by decide) ?_
        refine hz_n_eq (pc := 118) (tgt := 123) (hz_dec kX3_ofBlock 64 rfl) (by decide) (by omega) (by omega) (fun h4 => ?_) (fun h4 => ?_)
        · skip
          refine hz_incN (pc := 123) (i := 8) (lo2 := [(8, .int (nI (j + 1))), (0, .ref 25), (1, .ref nb), (2, .ref b), (3, .int (nI (l.length))), (4, .int (nI od)), (5, .ref (nb + 21)), (6, .int (nI (bkN l)))]) 0 (hz_dec kX3_ofBlock 67 rfl) rfl (by decide) rfl ?_
          refine hz_goto (pc := 126) (tgt := 82) (hz_dec kX3_ofBlock 68 rfl) (by decide) ?_
          refine hz_pick (pc := 82) [0, 1, 2, 3, 4, 5, 6, 7] rfl ?_
          refine ih (bkN l - (j + 1)) (by omega) (j + 1) rfl (by omega) (fun i hi => ?_)
          rcases (show i = j ∨ i < j by omega) with e | c9
          · subst e; exact decide_eq_false (fun q => q (⟨fun _ => by omega, fun _ => by omega⟩))
          · exact hno i c9
        · skip
          exact absurd h4 (by omega)
