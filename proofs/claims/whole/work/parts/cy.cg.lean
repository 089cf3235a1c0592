/-! choosing the greatest fees -/
def cgB (fee : Nat → Int64) (c : List Nat) : Nat → Option Nat
  | 0 => none
  | k + 1 => if c.elem k = true then cgB fee c k else match cgB fee c k with
    | none => some k
    | some b => if fee b < fee k then some k else some b
def cgL (fee : Nat → Int64) (n : Nat) : Nat → List Nat
  | 0 => []
  | m + 1 => cgL fee n m ++ [(cgB fee (cgL fee n m) n).getD 0]
def cgK (fee : Nat → Int64) (n m : Nat) : Nat := (cgB fee (cgL fee n m) n).getD 0
def cgU (fee : Nat → Int64) (n : Nat) : Nat → Nat
  | 0 => 0
  | m + 1 => cgU fee n m ||| 2 ^ cgK fee n m
theorem cgL_len (fee : Nat → Int64) (n : Nat) : ∀ m, (cgL fee n m).length = m := by
  intro m
  induction m with
  | zero => rfl
  | succ m ih => show (cgL fee n m ++ _).length = m + 1; rw [List.length_append, ih]; rfl
theorem cgB_s {fee : Nat → Int64} {c : List Nat} : ∀ k b, cgB fee c k = some b → b < k ∧ c.elem b = false := by
  intro k
  induction k with
  | zero => intro b h; cases h
  | succ k ih =>
    intro b h
    unfold cgB at h
    by_cases e : c.elem k = true
    · rw [if_pos e] at h
      have q := ih b h
      exact ⟨by omega, q.2⟩
    · have ef : c.elem k = false := by cases q : c.elem k with
        | false => rfl
        | true => exact absurd q e
      rw [if_neg e] at h
      cases g : cgB fee c k with
      | none => rw [g] at h; cases h; exact ⟨by omega, ef⟩
      | some b0 =>
        rw [g] at h
        have q := ih b0 g
        by_cases l : fee b0 < fee k
        · have h2 : (if fee b0 < fee k then some k else some b0) = some b := h
          rw [if_pos l] at h2; cases h2; exact ⟨by omega, ef⟩
        · have h2 : (if fee b0 < fee k then some k else some b0) = some b := h
          rw [if_neg l] at h2; cases h2; exact ⟨by omega, q.2⟩
theorem cgB_n {fee : Nat → Int64} {c : List Nat} : ∀ k, cgB fee c k = none → ∀ j, j < k → c.elem j = true := by
  intro k
  induction k with
  | zero => intro _ j hj; exact absurd hj (Nat.not_lt_zero j)
  | succ k ih =>
    intro h j hj
    unfold cgB at h
    by_cases e : c.elem k = true
    · rw [if_pos e] at h
      rcases (show j = k ∨ j < k by omega) with d | d
      · rw [d]; exact e
      · exact ih h j d
    · rw [if_neg e] at h
      cases g : cgB fee c k with
      | none => rw [g] at h; cases h
      | some b0 =>
        rw [g] at h
        have h2 : (if fee b0 < fee k then some k else some b0) = none := h
        split at h2 <;> cases h2
theorem pig : ∀ n (c : List Nat), (∀ j, j < n → j ∈ c) → n ≤ c.length := by
  intro n
  induction n with
  | zero => intro c _; exact Nat.zero_le _
  | succ n ih =>
    intro c h
    have hn := h n (by omega)
    have q := ih (c.erase n) (fun j hj => (List.mem_erase_of_ne (by omega)).mpr (h j (by omega)))
    rw [List.length_erase_of_mem hn] at q
    have p : 0 < c.length := List.length_pos_of_mem hn
    omega
theorem cg_k {fee : Nat → Int64} {n m : Nat} (h : m < n) : cgB fee (cgL fee n m) n = some (cgK fee n m) ∧ cgK fee n m < n ∧ (cgL fee n m).elem (cgK fee n m) = false := by
  cases g : cgB fee (cgL fee n m) n with
  | none =>
    have q := pig n (cgL fee n m) (fun j hj => List.elem_iff.mp (cgB_n n g j hj))
    rw [cgL_len] at q
    omega
  | some b =>
    have e : cgK fee n m = b := by unfold cgK; rw [g]; rfl
    rw [e]
    exact ⟨rfl, cgB_s n b g⟩
theorem cgL_el {fee : Nat → Int64} {n m k : Nat} : (cgL fee n (m + 1)).elem k = ((cgL fee n m).elem k || decide (k = cgK fee n m)) := by
  have e : (cgL fee n (m + 1)) = cgL fee n m ++ [cgK fee n m] := rfl
  rw [e]
  apply Bool.eq_iff_iff.mpr
  rw [Bool.or_eq_true, List.elem_iff, List.elem_iff, List.mem_append, List.mem_singleton, decide_eq_true_eq]
theorem cgU_b {fee : Nat → Int64} {n : Nat} : ∀ m k, (cgU fee n m).testBit k = (cgL fee n m).elem k := by
  intro m
  induction m with
  | zero => intro k; show (0 : Nat).testBit k = _; rw [Nat.zero_testBit]; rfl
  | succ m ih =>
    intro k
    rw [cgL_el, ← ih k]
    show (cgU fee n m ||| 2 ^ cgK fee n m).testBit k = _
    rw [Nat.testBit_or, Nat.testBit_two_pow]
    congr 1
    by_cases c : k = cgK fee n m
    · rw [decide_eq_true c, decide_eq_true c.symm]
    · rw [decide_eq_false c, decide_eq_false (fun q => c q.symm)]
theorem cgU_lt {fee : Nat → Int64} {n : Nat} (hn : n ≤ 16) : ∀ m, m ≤ n → cgU fee n m < 2 ^ 16 := by
  intro m
  induction m with
  | zero => intro _; show (0 : Nat) < 2 ^ 16; decide
  | succ m ih =>
    intro hm
    have q := (cg_k (fee := fee) (show m < n by omega)).2.1
    exact Nat.or_lt_two_pow (ih (by omega)) (Nat.pow_lt_pow_right (by decide) (by omega))
theorem bit_0 {u k : Nat} (hu : u < 2 ^ 16) (hk : k < 16) : ((nI u >>> (nI k &&& 31)) &&& nI 1) = 0 ↔ u.testBit k = false := by
  have e1 := bb_shr (nI u) (k := k) (by omega)
  rw [un_nI (by omega)] at e1
  have e2 : un ((nI u >>> (nI k &&& 31)) &&& nI 1) = un (nI u >>> (nI k &&& 31)) % 2 := by
    show ((nI u >>> (nI k &&& 31)).toBitVec &&& (nI 1).toBitVec).toNat = _
    rw [BitVec.toNat_and]
    exact Nat.and_one_is_mod _
  have e3 : un (nI u >>> (nI k &&& 31)) % 256 = u / 2 ^ k % 256 := e1
  rw [Nat.testBit_eq_decide_div_mod_eq, decide_eq_false_iff_not]
  constructor
  · intro h
    have q : un ((nI u >>> (nI k &&& 31)) &&& nI 1) = 0 := by rw [h]; rfl
    omega
  · intro h
    exact un_inj (by rw [e2]; show _ = 0; omega)
theorem or_n (u v : Nat) : nI u ||| nI v = nI (u ||| v) := by
  apply Int32.toBitVec_inj.mp
  show BitVec.ofNat 32 u ||| BitVec.ofNat 32 v = BitVec.ofNat 32 (u ||| v)
  rw [BitVec.ofNat_or]
set_option maxHeartbeats 4000000 in
set_option maxRecDepth 100000 in
theorem c_cg_i {κ : hz_C} {z nb v : Nat} {M : hz_M} (hnb : 63 ≤ nb) (hnbz : nb + 34 ≤ z) {up nx fu rc rf : Int32} (hn : M nb = ndO nb (nI v) up nx fu rc rf) {po : List po_P} (hp : plR M nb po) (hp16 : po.length ≤ 16) {m : Nat} (hm : m < po.length) {P : hz_P} (K : hz_W κ xX6_chooseGreatest 0 0 0 P 0 0 77 [(3, .int (nI (cgK (poV po) po.length m))), (1, .int (nI m)), (2, .int (nI (cgU (poV po) po.length m))), (0, .ref nb)] [] z M) : ∀ j k, j = po.length - k → k ≤ po.length → hz_W κ xX6_chooseGreatest 0 0 0 P 0 0 26 [(4, .int (nI k)), (3, .int (pvI (cgB (poV po) (cgL (poV po) po.length m) k))), (1, .int (nI m)), (2, .int (nI (cgU (poV po) po.length m))), (0, .ref nb)] [] z M := by
  intro j
  induction j using Nat.strongRecOn with
  | ind j ih =>
  intro k hj hk
  obtain ⟨hp1, ff, hff, hfx⟩ := id hp
  have hpO := hp1.1
  rw [List.length_map] at hpO
  have hu := cgU_lt (fee := poV po) hp16 m (by omega)
  have hck := cg_k (fee := poV po) hm
  refine hz_iload (pc := 26) 0 (hz_dec kX6_chooseGreatest 16 rfl) rfl ?_
  refine hz_aloadn (pc := 28) 4 (hz_dec kX6_chooseGreatest 17 rfl) rfl ?_
  refine hz_get (pc := 29) (hz_dec kX6_chooseGreatest 18 rfl) fo_X6_35 hn (by omega) (by omega) rfl ?_
  refine hz_get (pc := 32) (hz_dec kX6_chooseGreatest 19 rfl) fo_X6_88 hpO (by omega) (by omega) rfl ?_
  refine hz_n_ge (pc := 35) (tgt := 77) (hz_dec kX6_chooseGreatest 20 rfl) (by decide) (by omega) (by omega) (fun h1 => ?_) (fun h1 => ?_)
  · skip
    have e : k = po.length := by omega
    have e2 : pvI (cgB (poV po) (cgL (poV po) po.length m) k) = nI (cgK (poV po) po.length m) := by rw [e, hck.1]; rfl
    rw [e2]
    refine hz_pick (pc := 77) [1, 2, 3, 4] rfl ?_
    exact K
  · skip
    refine hz_iloadn (pc := 38) 3 (hz_dec kX6_chooseGreatest 21 rfl) rfl ?_
    refine hz_iload (pc := 39) 0 (hz_dec kX6_chooseGreatest 22 rfl) rfl ?_
    refine hz_ishr (pc := 41) (hz_dec kX6_chooseGreatest 23 rfl) ?_
    refine hz_iconst (pc := 42) (v := nI 1) (hz_dec kX6_chooseGreatest 24 rfl) (by decide) ?_
    refine hz_iand (pc := 43) (hz_dec kX6_chooseGreatest 25 rfl) ?_
    refine hz_if_ne (pc := 44) (tgt := 71) (hz_dec kX6_chooseGreatest 26 rfl) (by decide) (fun h2 => ?_) (fun h2 => ?_)
    · skip
      have eu : (cgL (poV po) po.length m).elem k = true := by rw [← cgU_b]; cases q : (cgU (poV po) po.length m).testBit k with
        | true => rfl
        | false => exact absurd ((bit_0 hu (by omega)).mpr q) h2
      have eb : pvI (cgB (poV po) (cgL (poV po) po.length m) (k + 1)) = pvI (cgB (poV po) (cgL (poV po) po.length m) k) := by show pvI (if _ then _ else _) = _; rw [if_pos eu]
      refine hz_incN (pc := 71) (i := 4) (lo2 := [(4, .int (nI (k + 1))), (3, .int (pvI (cgB (poV po) (cgL (poV po) po.length m) k))), (1, .int (nI m)), (2, .int (nI (cgU (poV po) po.length m))), (0, .ref nb)]) 0 (hz_dec kX6_chooseGreatest 41 rfl) rfl (by decide) rfl ?_
      refine hz_goto (pc := 74) (tgt := 26) (hz_dec kX6_chooseGreatest 42 rfl) (by decide) ?_
      refine hz_pick (pc := 26) [0, 1, 2, 3, 4] rfl ?_
      have q := ih (po.length - (k + 1)) (by omega) (k + 1) rfl (by omega)
      rw [eb] at q
      exact q
    · skip
      have eu : (cgL (poV po) po.length m).elem k = false := by rw [← cgU_b]; exact (bit_0 hu (by omega)).mp h2
      have en : ¬ (cgL (poV po) po.length m).elem k = true := by rw [eu]; decide
      refine hz_iloadn (pc := 47) 1 (hz_dec kX6_chooseGreatest 27 rfl) rfl ?_
      refine hz_if_lt (pc := 48) (tgt := 68) (hz_dec kX6_chooseGreatest 28 rfl) (by decide) (fun h3 => ?_) (fun h3 => ?_)
      · skip
        have eg : cgB (poV po) (cgL (poV po) po.length m) k = none := by cases g : cgB (poV po) (cgL (poV po) po.length m) k with
          | none => rfl
          | some b => rw [g] at h3; have hb := (cgB_s k b g).1; exact absurd h3 (by show ¬ nI b < 0; rw [Int32.lt_iff_toInt_lt, nI_toInt (by omega)]; show ¬ (b : Int) < 0; omega)
        have eb : pvI (cgB (poV po) (cgL (poV po) po.length m) (k + 1)) = nI k := by show pvI (if _ then _ else match cgB _ _ k with | none => _ | some b => _) = _; rw [if_neg en, eg]; rfl
        refine hz_iload (pc := 68) 0 (hz_dec kX6_chooseGreatest 39 rfl) rfl ?_
        refine hz_istoren (pc := 70) (i := 3) (lo2 := [(3, .int (nI k)), (4, .int (nI k)), (1, .int (nI m)), (2, .int (nI (cgU (poV po) po.length m))), (0, .ref nb)]) (hz_dec kX6_chooseGreatest 40 rfl) rfl (by decide) rfl ?_
        refine hz_incN (pc := 71) (i := 4) (lo2 := [(4, .int (nI (k + 1))), (3, .int (nI k)), (1, .int (nI m)), (2, .int (nI (cgU (poV po) po.length m))), (0, .ref nb)]) 1 (hz_dec kX6_chooseGreatest 41 rfl) rfl (by decide) rfl ?_
        refine hz_goto (pc := 74) (tgt := 26) (hz_dec kX6_chooseGreatest 42 rfl) (by decide) ?_
        refine hz_pick (pc := 26) [0, 1, 2, 3, 4] rfl ?_
        have q := ih (po.length - (k + 1)) (by omega) (k + 1) rfl (by omega)
        rw [eb] at q
        exact q
      · skip
        obtain ⟨b, eg⟩ : ∃ b, cgB (poV po) (cgL (poV po) po.length m) k = some b := by cases g : cgB (poV po) (cgL (poV po) po.length m) k with
          | none => rw [g] at h3; exact absurd (by decide) h3
          | some b => exact ⟨b, rfl⟩
        have hb := (cgB_s k b eg).1
        have e3 : pvI (cgB (poV po) (cgL (poV po) po.length m) k) = nI b := by rw [eg]; rfl
        rw [e3]
        refine hz_aloadn (pc := 51) 4 (hz_dec kX6_chooseGreatest 29 rfl) rfl ?_
        refine hz_get (pc := 52) (hz_dec kX6_chooseGreatest 30 rfl) fo_X6_39 hn (by omega) (by omega) rfl ?_
        refine hz_iload (pc := 55) 0 (hz_dec kX6_chooseGreatest 31 rfl) rfl ?_
        refine hz_lald (pc := 57) (j := k) (hz_dec kX6_chooseGreatest 32 rfl) hff (by omega) (by omega) rfl (by omega) (by decide) ?_
        refine hz_eql (pc := 58) (hfx k h1) ?_
        refine hz_aloadn (pc := 58) 4 (hz_dec kX6_chooseGreatest 33 rfl) rfl ?_
        refine hz_get (pc := 59) (hz_dec kX6_chooseGreatest 34 rfl) fo_X6_39 hn (by omega) (by omega) rfl ?_
        refine hz_iloadn (pc := 62) 1 (hz_dec kX6_chooseGreatest 35 rfl) rfl ?_
        refine hz_lald (pc := 63) (j := b) (hz_dec kX6_chooseGreatest 36 rfl) hff (by omega) (by omega) rfl (by omega) (by decide) ?_
        refine hz_eql (pc := 64) (hfx b (by omega)) ?_
        refine hz_lcmp (pc := 64) (hz_dec kX6_chooseGreatest 37 rfl) ?_
        refine hz_if_le (pc := 65) (tgt := 71) (hz_dec kX6_chooseGreatest 38 rfl) (by decide) (fun h4 => ?_) (fun h4 => ?_)
        · skip
          have eb : pvI (cgB (poV po) (cgL (poV po) po.length m) (k + 1)) = nI b := by show pvI (if _ then _ else match cgB _ _ k with | none => _ | some b => _) = _; rw [if_neg en, eg]; show pvI (if poV po b < poV po k then some k else some b) = _; rw [if_neg (Int64.not_lt.mpr ((lg_cmp_le _ _).mp h4))]; rfl
          refine hz_incN (pc := 71) (i := 4) (lo2 := [(4, .int (nI (k + 1))), (3, .int (nI b)), (1, .int (nI m)), (2, .int (nI (cgU (poV po) po.length m))), (0, .ref nb)]) 0 (hz_dec kX6_chooseGreatest 41 rfl) rfl (by decide) rfl ?_
          refine hz_goto (pc := 74) (tgt := 26) (hz_dec kX6_chooseGreatest 42 rfl) (by decide) ?_
          refine hz_pick (pc := 26) [0, 1, 2, 3, 4] rfl ?_
          have q := ih (po.length - (k + 1)) (by omega) (k + 1) rfl (by omega)
          rw [eb] at q
          exact q
        · skip
          have eb : pvI (cgB (poV po) (cgL (poV po) po.length m) (k + 1)) = nI k := by show pvI (if _ then _ else match cgB _ _ k with | none => _ | some b => _) = _; rw [if_neg en, eg]; show pvI (if poV po b < poV po k then some k else some b) = _; rw [if_pos (Int64.not_le.mp (fun c => h4 ((lg_cmp_le _ _).mpr c)))]; rfl
          refine hz_iload (pc := 68) 0 (hz_dec kX6_chooseGreatest 39 rfl) rfl ?_
          refine hz_istoren (pc := 70) (i := 3) (lo2 := [(3, .int (nI k)), (4, .int (nI k)), (1, .int (nI m)), (2, .int (nI (cgU (poV po) po.length m))), (0, .ref nb)]) (hz_dec kX6_chooseGreatest 40 rfl) rfl (by decide) rfl ?_
          refine hz_incN (pc := 71) (i := 4) (lo2 := [(4, .int (nI (k + 1))), (3, .int (nI k)), (1, .int (nI m)), (2, .int (nI (cgU (poV po) po.length m))), (0, .ref nb)]) 1 (hz_dec kX6_chooseGreatest 41 rfl) rfl (by decide) rfl ?_
          refine hz_goto (pc := 74) (tgt := 26) (hz_dec kX6_chooseGreatest 42 rfl) (by decide) ?_
          refine hz_pick (pc := 26) [0, 1, 2, 3, 4] rfl ?_
          have q := ih (po.length - (k + 1)) (by omega) (k + 1) rfl (by omega)
          rw [eb] at q
          exact q
