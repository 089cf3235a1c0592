/-! fuse, down, peek, poke -/
def ksf (S : ks_S) (F : Option Nat) : ks_S := (ksB S, ksT S, ksN S, F, ksD S, ksP S, ksL S, ksQ S)
def ksd (S : ks_S) (D : Nat → Int32) : ks_S := (ksB S, ksT S, ksN S, ksF S, D, ksP S, ksL S, ksQ S)
def ndo (N : nd_N) (F : Option Nat) (u : Bool) : nd_N := (ksf N.1 F, u, N.2.2)
def ndd (N : nd_N) (D : Nat → Int32) : nd_N := (ksd N.1 D, N.2)
def fuI (n : Int32) : Option Nat := if n < 0 then none else some (un n)
theorem fuI_n {n : Int32} (h : n < 0) : pvI (fuI n) = -1 := by unfold fuI; rw [if_pos h]; rfl
theorem fuI_p {n : Int32} (h : ¬ n < 0) : pvI (fuI n) = n := by unfold fuI; rw [if_neg h]; exact nI_un n
theorem un_nn {n : Int32} (h : ¬ n < 0) : un n < 2 ^ 31 := by
  have q := BitVec.toInt_eq_toNat_cond n.toBitVec
  have r : n.toBitVec.toInt = n.toInt := rfl
  rw [Int32.lt_iff_toInt_lt] at h
  have z : (0 : Int32).toInt = 0 := rfl
  have l := n.toBitVec.isLt
  unfold un
  split at q <;> omega
theorem ndR.o {M : hz_M} {nb v : Nat} {N : nd_N} (h : ndR M nb v N) (F : Option Nat) (u : Bool) : ndR (va_up M nb (ndO nb (nI v) (hz_b u) (nI (ksN N.1)) (pvI F) N.2.2.1 N.2.2.2)) nb v (ndo N F u) := by
  obtain ⟨h1, ⟨g, h2, h3⟩, h4, h5, h6, h7⟩ := h
  have e : ∀ q, nb < q → va_up M nb (ndO nb (nI v) (hz_b u) (nI (ksN N.1)) (pvI F) N.2.2.1 N.2.2.2) q = M q := fun q hq => va_up_ne _ _ (by omega)
  exact ⟨va_up_self _ _ _, ⟨g, (e _ (by omega)).trans h2, h3⟩, h4.fr (fun q q1 q2 => e q (by omega)), h5.fr (fun q q1 q2 => e q (by omega)), h6.fr (fun q q1 q2 => e q (by omega)), h7.fr (fun q q1 q2 => e q (by omega))⟩
theorem upd_cg {f g : Nat → Int32} {n a i : Nat} {x : Int32} (h : ∀ j, j < n → f (a + j) = g j) : ∀ j, j < n → upd f (a + i) x (a + j) = upd g i x j := by
  intro j hj
  by_cases c : j = i
  · rw [c, upd_s, upd_s]
  · rw [upd_o c, upd_o (by omega)]; exact h j hj
theorem upd_cg0 {f g : Nat → Int32} {n i : Nat} {x : Int32} (h : ∀ j, j < n → f j = g j) : ∀ j, j < n → upd f i x j = upd g i x j := by
  intro j hj
  by_cases c : j = i
  · rw [c, upd_s, upd_s]
  · rw [upd_o c, upd_o c]; exact h j hj
theorem ndR.d {M : hz_M} {nb v : Nat} {N : nd_N} (h : ndR M nb v N) {D g : Nat → Int32} (hg : ∀ j, j < 12288 → g j = D j) : ndR (va_up M (nb + 1) (.inl (1, 12288, .inl g))) nb v (ndd N D) := by
  obtain ⟨h1, ⟨g0, h2, h3⟩, h4, h5, h6, h7⟩ := h
  have e : ∀ q, ¬ q = nb + 1 → va_up M (nb + 1) (.inl (1, 12288, .inl g)) q = M q := fun q hq => va_up_ne _ _ hq
  exact ⟨(e nb (by omega)).trans h1, ⟨_, va_up_self _ _ _, hg⟩, h4.fr (fun q q1 q2 => e q (by omega)), h5.fr (fun q q1 q2 => e q (by omega)), h6.fr (fun q q1 q2 => e q (by omega)), h7.fr (fun q q1 q2 => e q (by omega))⟩
theorem mnS.f19 {M M2 : hz_M} {B v : Nat} {up fz fz2 : Int32} {S : ks_S} {po : List po_P} (h : mnS M B v up S fz po) (f : mfr B [] [19] M M2) (h19 : fA M2 B 19 v = fz2) (F : Option Nat) : mnS M2 B v up (ksf S F) fz2 po := by
  obtain ⟨h1, h2, h3, -, h5, h6, h7, h9⟩ := h
  exact ⟨by rw [fA_m f (by decide) rfl]; exact h1, by rw [fA_m f (by decide) rfl]; exact h2, by rw [fA_m f (by decide) rfl]; exact h3, h19, h5.mf f rfl, h6.mf f rfl, h7.mf f rfl rfl rfl rfl, by unfold mnP; rw [fA_m f (by decide) rfl]; exact h9⟩
theorem mnS.f17 {M M2 : hz_M} {B v : Nat} {up fz : Int32} {S : ks_S} {po : List po_P} (h : mnS M B v up S fz po) (f : mfr B [] [17] M M2) {D : Nat → Int32} (h17 : ∀ j, j < 12288 → fA M2 B 17 (12288 * v + j) = D j) : mnS M2 B v up (ksd S D) fz po := by
  obtain ⟨h1, h2, h3, h4, h5, h6, h7, h9⟩ := h
  exact ⟨by rw [fA_m f (by decide) rfl]; exact h1, h17, by rw [fA_m f (by decide) rfl]; exact h3, by rw [fA_m f (by decide) rfl]; exact h4, h5.mf f rfl, h6.mf f rfl, h7.mf f rfl rfl rfl rfl, by unfold mnP; rw [fA_m f (by decide) rfl]; exact h9⟩
theorem hoS_X {H : ho_H} {v : Nat} {N : nd_N} (h : hoX H) (hv : v < (hoN H).length) (hN : ksI N.1) : hoX (hoS H v N (hoQ H)) := by
  have hl : (hoN (hoS H v N (hoQ H))).length = (hoN H).length := List.length_set
  refine ⟨fun w hw => ?_, h.2.1, by rw [hl]; exact h.2.2⟩
  rw [hl] at hw
  rw [show ndL (hoN (hoS H v N (hoQ H))) w = if w = v then N else ndL (hoN H) w from ndL_set hv w]
  by_cases c : w = v
  · rw [if_pos c]; exact hN
  · rw [if_neg c]; exact h.1 w hw
theorem ksf_I {S : ks_S} {n : Int32} (h : ksI S) : ksI (ksf S (fuI n)) := by
  refine ⟨h.1, h.2.1, fun q hq => ?_, h.2.2.2⟩
  have e : fuI n = some q := hq
  unfold fuI at e
  by_cases c : n < 0
  · rw [if_pos c] at e; cases e
  · rw [if_neg c] at e; cases e; exact un_nn c
theorem ksd_I {S : ks_S} {D : Nat → Int32} (h : ksI S) : ksI (ksd S D) := h
theorem ksf_J {S : ks_S} (h : ksI S) : ksI (ksf S (ksF S)) := h
set_option maxHeartbeats 4000000 in
set_option maxRecDepth 100000 in
theorem c_fuseN {κ : hz_C} {z : Nat} {M : hz_M} {H : ho_H} (hz : 63 + 34 * (hoN H).length ≤ z) (hnn : (hoN H).length ≤ 6) (hT4 : (hoT H).length ≤ 4000) {ll : Nat} {fr kn : Int32} (hR : hcR M z H ll fr kn) {v : Int32} {n : Int32} (hv : v < 0 ∨ ¬ v < nI (hoN H).length) : hz_Mt κ xX11_fuse 1 0 0 [.ref 8, .int v, .int n] z M (hcP M z H (.int (-1)) H) := by
  refine hz_ent (lo := [(0, .ref 8), (1, .int v), (2, .int n)]) (by decide) (Nat.le_of_ble_eq_true rfl) rfl ?_
  have hH := hR.1
  have hNs := hR.2.1
  obtain ⟨hO, hQ, hD⟩ := id hR.2.2.2.2.1
  obtain ⟨g53, h53⟩ := hR.2.2.2.2.2.1
  have hJ := hR.2.2.2.1
  obtain ⟨g56, h56, hT56⟩ := hR.2.2.2.2.2.2.2.2.2.1
  have hdf := hR.2.2.2.2.2.2.2.2.2.2
  have hck : ck_k M z := hJ.2.2.2.2.2.2.2.1
  have hcs : ck_s M := hJ.2.2.2.2.2.2.2.2.1
  have hz63 : 63 ≤ z := by omega
  refine hz_aloadn (pc := 0) 0 (hz_dec kX11_fuse 0 rfl) rfl ?_
  refine hz_iloadn (pc := 1) 1 (hz_dec kX11_fuse 1 rfl) rfl ?_
  refine hz_xV (pc := 2) (a := 8) (As := [.int v]) (st := []) (hz_dec kX11_fuse 2 rfl) co_X11_162 im_X11_nodeOf se_X11_nodeOf rfl hH (by omega) (by omega) (c_nOfN hz63 hH hnn hNs hv) rfl (by decide) ⟨Nat.le_refl _, Nat.le_refl _⟩ (Nat.le_of_ble_eq_true rfl) rfl ?_
  refine hz_astorenN (pc := 5) (i := 3) (lo2 := [(3, .null), (0, .ref 8), (1, .int v), (2, .int n)]) (hz_dec kX11_fuse 3 rfl) rfl (by decide) rfl ?_
  refine hz_aloadnN (pc := 6) 0 (hz_dec kX11_fuse 4 rfl) rfl ?_
  refine hz_ifnonnullN (pc := 7) (hz_dec kX11_fuse 5 rfl) ?_
  refine hz_iconst (pc := 10) (v := (-1)) (hz_dec kX11_fuse 6 rfl) (by decide) ?_
  exact hz_iret (pc := 11) (hz_dec kX11_fuse 7 rfl) rfl (hcP.no hR _)
set_option maxHeartbeats 4000000 in
set_option maxRecDepth 100000 in
theorem c_rfuseN {κ : hz_C} {z B : Nat} {M : hz_M} {H : ho_H} (hnn : (hoN H).length ≤ 6) (hT4 : (hoT H).length ≤ 4000) (hR : hmR M z B H) {v : Int32} {n : Int32} (hv : v < 0 ∨ ¬ v < nI (hoN H).length) : hz_Mt κ xX12_fuse 1 0 0 [.ref B, .int v, .int n] z M (hmP M z B (.int (-1)) H) := by
  refine hz_ent (lo := [(0, .ref B), (1, .int v), (2, .int n)]) (by decide) (Nat.le_of_ble_eq_true rfl) rfl ?_
  obtain ⟨hk0_, hE0, ⟨m1, m2, m3⟩, hNd, a5, a6, a7, a8⟩ := id hR
  obtain ⟨⟨fs, hO, hF⟩, -, -, h8, hz⟩ := id hk0_
  obtain ⟨x1, x3, x4, x5, x6, x7, x8⟩ := id m3
  refine hz_aloadn (pc := 0) 0 (hz_dec kX12_fuse 0 rfl) rfl ?_
  refine hz_iconst (pc := 1) (v := nI 0) (hz_dec kX12_fuse 1 rfl) (by decide) ?_
  refine hz_puti (pc := 2) (hz_dec kX12_fuse 2 rfl) fo_X12_302 ft_X12_0 hO h8 (by omega) (by rw [hF.1]; decide) ?_
  have hf1 : mfr B [0, 89] [] M (va_up M B (.inr (12, (List.set fs 0 (.int (nI 0)))))) := (mfr.rf ⟨fs, hO, hF⟩).upO (k := 0) hO hF rfl rfl
  have hR1 : hmR (va_up M B (.inr (12, (List.set fs 0 (.int (nI 0)))))) z B H := hR.m0 hf1 hE0.upO ((fdB_of (va_up_self _ _ _) 89).trans ((List.getElem?_set_ne (by decide)).trans ((fdB_of hO 89).symm.trans x8)))
  generalize (va_up M B (.inr (12, (List.set fs 0 (.int (nI 0)))))) = M1 at *
  obtain ⟨hk1, hE1, ⟨n1, d1, q1⟩, hNd1, a51, a61, a71, a81⟩ := id hR1
  obtain ⟨⟨fs1, hO1, hF1⟩, -, -, -, -⟩ := id hk1
  refine hz_aloadn (pc := 5) 0 (hz_dec kX12_fuse 3 rfl) rfl ?_
  refine hz_iloadn (pc := 6) 1 (hz_dec kX12_fuse 4 rfl) rfl ?_
  refine hz_xV (pc := 7) (a := B) (As := [.int v]) (st := []) (hz_dec kX12_fuse 5 rfl) co_X12_692 im_X12_stateOf se_X12_stateOf rfl hO1 h8 (by omega) (c_stN hnn hR1 hv) rfl (by decide) ⟨Nat.le_refl _, Nat.le_refl _⟩ (Nat.le_of_ble_eq_true rfl) rfl ?_
  refine hz_istoren (pc := 10) (i := 3) (lo2 := [(3, .int (-1)), (0, .ref B), (1, .int v), (2, .int n)]) (hz_dec kX12_fuse 6 rfl) rfl (by decide) rfl ?_
  refine hz_iloadn (pc := 11) 0 (hz_dec kX12_fuse 7 rfl) rfl ?_
  refine hz_if_ge (pc := 12) (tgt := 17) (hz_dec kX12_fuse 8 rfl) (by decide) (fun hq1 => ?_) (fun hq1 => ?_)
  · skip
    exact absurd hq1 (by decide)
  · skip
    refine hz_iloadn (pc := 15) 0 (hz_dec kX12_fuse 9 rfl) rfl ?_
    exact hz_iret (pc := 16) (hz_dec kX12_fuse 10 rfl) rfl ⟨rfl, rfl, hf1.S rfl, hR1⟩
set_option maxHeartbeats 4000000 in
set_option maxRecDepth 100000 in
theorem c_fuseD {κ : hz_C} {z : Nat} {M : hz_M} {H : ho_H} (hz : 63 + 34 * (hoN H).length ≤ z) (hnn : (hoN H).length ≤ 6) (hT4 : (hoT H).length ≤ 4000) {ll : Nat} {fr kn : Int32} (hR : hcR M z H ll fr kn) {v : Nat} (hv : v < (hoN H).length) {N : nd_N} (hN : ndL (hoN H) v = N) {n : Int32} (hup : N.2.1 = false) : hz_Mt κ xX11_fuse 1 0 0 [.ref 8, .int (nI v), .int n] z M (hcP M z H (.int (-2)) H) := by
  refine hz_ent (lo := [(0, .ref 8), (1, .int (nI v)), (2, .int n)]) (by decide) (Nat.le_of_ble_eq_true rfl) rfl ?_
  have hH := hR.1
  have hNs := hR.2.1
  obtain ⟨hO, hQ, hD⟩ := id hR.2.2.2.2.1
  obtain ⟨g53, h53⟩ := hR.2.2.2.2.2.1
  have hJ := hR.2.2.2.1
  obtain ⟨g56, h56, hT56⟩ := hR.2.2.2.2.2.2.2.2.2.1
  have hdf := hR.2.2.2.2.2.2.2.2.2.2
  have hck : ck_k M z := hJ.2.2.2.2.2.2.2.1
  have hcs : ck_s M := hJ.2.2.2.2.2.2.2.2.1
  have hz63 : 63 ≤ z := by omega
  have hK := hR.2.2.1 v hv
  rw [hN] at hK
  obtain ⟨hn, ⟨gd, hgd, hgD⟩, hT, hC, hP, hL⟩ := id hK
  have hn : M (63 + 34 * v) = ndO (63 + 34 * v) (nI v) (nI 0) (nI (ksN N.1)) (pvI (ksF N.1)) N.2.2.1 N.2.2.2 := by rw [hup] at hn; exact hn
  refine hz_aloadn (pc := 0) 0 (hz_dec kX11_fuse 0 rfl) rfl ?_
  refine hz_iloadn (pc := 1) 1 (hz_dec kX11_fuse 1 rfl) rfl ?_
  refine hz_xV (pc := 2) (a := 8) (As := [.int (nI v)]) (st := []) (hz_dec kX11_fuse 2 rfl) co_X11_162 im_X11_nodeOf se_X11_nodeOf rfl hH (by omega) (by omega) (c_nOf hz63 hH hnn hNs (b := v) hv) rfl (by decide) ⟨Nat.le_refl _, Nat.le_refl _⟩ (Nat.le_of_ble_eq_true rfl) rfl ?_
  refine hz_astoren (pc := 5) (i := 3) (lo2 := [(3, .ref (63 + 34 * v)), (0, .ref 8), (1, .int (nI v)), (2, .int n)]) (hz_dec kX11_fuse 3 rfl) rfl (by decide) rfl ?_
  refine hz_aloadn (pc := 6) 0 (hz_dec kX11_fuse 4 rfl) rfl ?_
  refine hz_ifnonnull (pc := 7) (tgt := 12) (hz_dec kX11_fuse 5 rfl) (by decide) ?_
  refine hz_aloadn (pc := 12) 0 (hz_dec kX11_fuse 8 rfl) rfl ?_
  refine hz_get (pc := 13) (hz_dec kX11_fuse 9 rfl) fo_X11_166 hn (by omega) (by omega) rfl ?_
  refine hz_z_ne (pc := 16) (tgt := 22) (hz_dec kX11_fuse 10 rfl) (by decide) (by omega) (fun hq1 => ?_) (fun hq1 => ?_)
  · skip
    exact absurd hq1 (by decide)
  · skip
    refine hz_bipush (pc := 19) (v := (-2)) (hz_dec kX11_fuse 11 rfl) (by decide) ?_
    exact hz_iret (pc := 21) (hz_dec kX11_fuse 12 rfl) rfl (hcP.no hR _)
set_option maxHeartbeats 4000000 in
set_option maxRecDepth 100000 in
theorem c_rfuseD {κ : hz_C} {z B : Nat} {M : hz_M} {H : ho_H} (hnn : (hoN H).length ≤ 6) (hT4 : (hoT H).length ≤ 4000) (hR : hmR M z B H) {v : Nat} (hv : v < (hoN H).length) {N : nd_N} (hN : ndL (hoN H) v = N) {n : Int32} (hup : N.2.1 = false) : hz_Mt κ xX12_fuse 1 0 0 [.ref B, .int (nI v), .int n] z M (hmP M z B (.int (-2)) H) := by
  refine hz_ent (lo := [(0, .ref B), (1, .int (nI v)), (2, .int n)]) (by decide) (Nat.le_of_ble_eq_true rfl) rfl ?_
  obtain ⟨hk0_, hE0, ⟨m1, m2, m3⟩, hNd, a5, a6, a7, a8⟩ := id hR
  obtain ⟨⟨fs, hO, hF⟩, -, -, h8, hz⟩ := id hk0_
  obtain ⟨x1, x3, x4, x5, x6, x7, x8⟩ := id m3
  have eSt : stI (ndL (hoN H) v).2.1 = (-2) := by rw [hN, hup]; rfl
  refine hz_aloadn (pc := 0) 0 (hz_dec kX12_fuse 0 rfl) rfl ?_
  refine hz_iconst (pc := 1) (v := nI 0) (hz_dec kX12_fuse 1 rfl) (by decide) ?_
  refine hz_puti (pc := 2) (hz_dec kX12_fuse 2 rfl) fo_X12_302 ft_X12_0 hO h8 (by omega) (by rw [hF.1]; decide) ?_
  have hf1 : mfr B [0, 89] [] M (va_up M B (.inr (12, (List.set fs 0 (.int (nI 0)))))) := (mfr.rf ⟨fs, hO, hF⟩).upO (k := 0) hO hF rfl rfl
  have hR1 : hmR (va_up M B (.inr (12, (List.set fs 0 (.int (nI 0)))))) z B H := hR.m0 hf1 hE0.upO ((fdB_of (va_up_self _ _ _) 89).trans ((List.getElem?_set_ne (by decide)).trans ((fdB_of hO 89).symm.trans x8)))
  generalize (va_up M B (.inr (12, (List.set fs 0 (.int (nI 0)))))) = M1 at *
  obtain ⟨hk1, hE1, ⟨n1, d1, q1⟩, hNd1, a51, a61, a71, a81⟩ := id hR1
  obtain ⟨⟨fs1, hO1, hF1⟩, -, -, -, -⟩ := id hk1
  refine hz_aloadn (pc := 5) 0 (hz_dec kX12_fuse 3 rfl) rfl ?_
  refine hz_iloadn (pc := 6) 1 (hz_dec kX12_fuse 4 rfl) rfl ?_
  refine hz_xV (pc := 7) (a := B) (As := [.int (nI v)]) (st := []) (hz_dec kX12_fuse 5 rfl) co_X12_692 im_X12_stateOf se_X12_stateOf rfl hO1 h8 (by omega) (c_st hnn hR1 hv) rfl (by decide) ⟨Nat.le_refl _, Nat.le_refl _⟩ (Nat.le_of_ble_eq_true rfl) rfl ?_
  refine hz_eqi (pc := 10) eSt ?_
  refine hz_istoren (pc := 10) (i := 3) (lo2 := [(3, .int (-2)), (0, .ref B), (1, .int (nI v)), (2, .int n)]) (hz_dec kX12_fuse 6 rfl) rfl (by decide) rfl ?_
  refine hz_iloadn (pc := 11) 0 (hz_dec kX12_fuse 7 rfl) rfl ?_
  refine hz_if_ge (pc := 12) (tgt := 17) (hz_dec kX12_fuse 8 rfl) (by decide) (fun hq1 => ?_) (fun hq1 => ?_)
  · skip
    exact absurd hq1 (by decide)
  · skip
    refine hz_iloadn (pc := 15) 0 (hz_dec kX12_fuse 9 rfl) rfl ?_
    exact hz_iret (pc := 16) (hz_dec kX12_fuse 10 rfl) rfl ⟨rfl, rfl, hf1.S rfl, hR1⟩
set_option maxHeartbeats 4000000 in
set_option maxRecDepth 100000 in
theorem c_downN {κ : hz_C} {z : Nat} {M : hz_M} {H : ho_H} (hz : 63 + 34 * (hoN H).length ≤ z) (hnn : (hoN H).length ≤ 6) (hT4 : (hoT H).length ≤ 4000) {ll : Nat} {fr kn : Int32} (hR : hcR M z H ll fr kn) {v : Int32}  (hv : v < 0 ∨ ¬ v < nI (hoN H).length) : hz_Mt κ xX11_down 1 0 0 [.ref 8, .int v] z M (hcP M z H (.int (-1)) H) := by
  refine hz_ent (lo := [(0, .ref 8), (1, .int v)]) (by decide) (Nat.le_of_ble_eq_true rfl) rfl ?_
  have hH := hR.1
  have hNs := hR.2.1
  obtain ⟨hO, hQ, hD⟩ := id hR.2.2.2.2.1
  obtain ⟨g53, h53⟩ := hR.2.2.2.2.2.1
  have hJ := hR.2.2.2.1
  obtain ⟨g56, h56, hT56⟩ := hR.2.2.2.2.2.2.2.2.2.1
  have hdf := hR.2.2.2.2.2.2.2.2.2.2
  have hck : ck_k M z := hJ.2.2.2.2.2.2.2.1
  have hcs : ck_s M := hJ.2.2.2.2.2.2.2.2.1
  have hz63 : 63 ≤ z := by omega
  refine hz_aloadn (pc := 0) 0 (hz_dec kX11_down 0 rfl) rfl ?_
  refine hz_iloadn (pc := 1) 1 (hz_dec kX11_down 1 rfl) rfl ?_
  refine hz_xV (pc := 2) (a := 8) (As := [.int v]) (st := []) (hz_dec kX11_down 2 rfl) co_X11_162 im_X11_nodeOf se_X11_nodeOf rfl hH (by omega) (by omega) (c_nOfN hz63 hH hnn hNs hv) rfl (by decide) ⟨Nat.le_refl _, Nat.le_refl _⟩ (Nat.le_of_ble_eq_true rfl) rfl ?_
  refine hz_astorenN (pc := 5) (i := 2) (lo2 := [(2, .null), (0, .ref 8), (1, .int v)]) (hz_dec kX11_down 3 rfl) rfl (by decide) rfl ?_
  refine hz_aloadnN (pc := 6) 0 (hz_dec kX11_down 4 rfl) rfl ?_
  refine hz_ifnonnullN (pc := 7) (hz_dec kX11_down 5 rfl) ?_
  refine hz_iconst (pc := 10) (v := (-1)) (hz_dec kX11_down 6 rfl) (by decide) ?_
  exact hz_iret (pc := 11) (hz_dec kX11_down 7 rfl) rfl (hcP.no hR _)
set_option maxHeartbeats 4000000 in
set_option maxRecDepth 100000 in
theorem c_rdownN {κ : hz_C} {z B : Nat} {M : hz_M} {H : ho_H} (hnn : (hoN H).length ≤ 6) (hT4 : (hoT H).length ≤ 4000) (hR : hmR M z B H) {v : Int32}  (hv : v < 0 ∨ ¬ v < nI (hoN H).length) : hz_Mt κ xX12_down 1 0 0 [.ref B, .int v] z M (hmP M z B (.int (-1)) H) := by
  refine hz_ent (lo := [(0, .ref B), (1, .int v)]) (by decide) (Nat.le_of_ble_eq_true rfl) rfl ?_
  obtain ⟨hk0_, hE0, ⟨m1, m2, m3⟩, hNd, a5, a6, a7, a8⟩ := id hR
  obtain ⟨⟨fs, hO, hF⟩, -, -, h8, hz⟩ := id hk0_
  obtain ⟨x1, x3, x4, x5, x6, x7, x8⟩ := id m3
  refine hz_aloadn (pc := 0) 0 (hz_dec kX12_down 0 rfl) rfl ?_
  refine hz_iconst (pc := 1) (v := nI 0) (hz_dec kX12_down 1 rfl) (by decide) ?_
  refine hz_puti (pc := 2) (hz_dec kX12_down 2 rfl) fo_X12_302 ft_X12_0 hO h8 (by omega) (by rw [hF.1]; decide) ?_
  have hf1 : mfr B [0, 89] [] M (va_up M B (.inr (12, (List.set fs 0 (.int (nI 0)))))) := (mfr.rf ⟨fs, hO, hF⟩).upO (k := 0) hO hF rfl rfl
  have hR1 : hmR (va_up M B (.inr (12, (List.set fs 0 (.int (nI 0)))))) z B H := hR.m0 hf1 hE0.upO ((fdB_of (va_up_self _ _ _) 89).trans ((List.getElem?_set_ne (by decide)).trans ((fdB_of hO 89).symm.trans x8)))
  generalize (va_up M B (.inr (12, (List.set fs 0 (.int (nI 0)))))) = M1 at *
  obtain ⟨hk1, hE1, ⟨n1, d1, q1⟩, hNd1, a51, a61, a71, a81⟩ := id hR1
  obtain ⟨⟨fs1, hO1, hF1⟩, -, -, -, -⟩ := id hk1
  refine hz_aloadn (pc := 5) 0 (hz_dec kX12_down 3 rfl) rfl ?_
  refine hz_iloadn (pc := 6) 1 (hz_dec kX12_down 4 rfl) rfl ?_
  refine hz_xV (pc := 7) (a := B) (As := [.int v]) (st := []) (hz_dec kX12_down 5 rfl) co_X12_692 im_X12_stateOf se_X12_stateOf rfl hO1 h8 (by omega) (c_stN hnn hR1 hv) rfl (by decide) ⟨Nat.le_refl _, Nat.le_refl _⟩ (Nat.le_of_ble_eq_true rfl) rfl ?_
  refine hz_istoren (pc := 10) (i := 2) (lo2 := [(2, .int (-1)), (0, .ref B), (1, .int v)]) (hz_dec kX12_down 6 rfl) rfl (by decide) rfl ?_
  refine hz_iloadn (pc := 11) 0 (hz_dec kX12_down 7 rfl) rfl ?_
  refine hz_if_ge (pc := 12) (tgt := 17) (hz_dec kX12_down 8 rfl) (by decide) (fun hq1 => ?_) (fun hq1 => ?_)
  · skip
    exact absurd hq1 (by decide)
  · skip
    refine hz_iloadn (pc := 15) 0 (hz_dec kX12_down 9 rfl) rfl ?_
    exact hz_iret (pc := 16) (hz_dec kX12_down 10 rfl) rfl ⟨rfl, rfl, hf1.S rfl, hR1⟩
set_option maxHeartbeats 4000000 in
set_option maxRecDepth 100000 in
theorem c_downD {κ : hz_C} {z : Nat} {M : hz_M} {H : ho_H} (hz : 63 + 34 * (hoN H).length ≤ z) (hnn : (hoN H).length ≤ 6) (hT4 : (hoT H).length ≤ 4000) {ll : Nat} {fr kn : Int32} (hR : hcR M z H ll fr kn) {v : Nat} (hv : v < (hoN H).length) {N : nd_N} (hN : ndL (hoN H) v = N)  (hup : N.2.1 = false) : hz_Mt κ xX11_down 1 0 0 [.ref 8, .int (nI v)] z M (hcP M z H (.int (-2)) H) := by
  refine hz_ent (lo := [(0, .ref 8), (1, .int (nI v))]) (by decide) (Nat.le_of_ble_eq_true rfl) rfl ?_
  have hH := hR.1
  have hNs := hR.2.1
  obtain ⟨hO, hQ, hD⟩ := id hR.2.2.2.2.1
  obtain ⟨g53, h53⟩ := hR.2.2.2.2.2.1
  have hJ := hR.2.2.2.1
  obtain ⟨g56, h56, hT56⟩ := hR.2.2.2.2.2.2.2.2.2.1
  have hdf := hR.2.2.2.2.2.2.2.2.2.2
  have hck : ck_k M z := hJ.2.2.2.2.2.2.2.1
  have hcs : ck_s M := hJ.2.2.2.2.2.2.2.2.1
  have hz63 : 63 ≤ z := by omega
  have hK := hR.2.2.1 v hv
  rw [hN] at hK
  obtain ⟨hn, ⟨gd, hgd, hgD⟩, hT, hC, hP, hL⟩ := id hK
  have hn : M (63 + 34 * v) = ndO (63 + 34 * v) (nI v) (nI 0) (nI (ksN N.1)) (pvI (ksF N.1)) N.2.2.1 N.2.2.2 := by rw [hup] at hn; exact hn
  refine hz_aloadn (pc := 0) 0 (hz_dec kX11_down 0 rfl) rfl ?_
  refine hz_iloadn (pc := 1) 1 (hz_dec kX11_down 1 rfl) rfl ?_
  refine hz_xV (pc := 2) (a := 8) (As := [.int (nI v)]) (st := []) (hz_dec kX11_down 2 rfl) co_X11_162 im_X11_nodeOf se_X11_nodeOf rfl hH (by omega) (by omega) (c_nOf hz63 hH hnn hNs (b := v) hv) rfl (by decide) ⟨Nat.le_refl _, Nat.le_refl _⟩ (Nat.le_of_ble_eq_true rfl) rfl ?_
  refine hz_astoren (pc := 5) (i := 2) (lo2 := [(2, .ref (63 + 34 * v)), (0, .ref 8), (1, .int (nI v))]) (hz_dec kX11_down 3 rfl) rfl (by decide) rfl ?_
  refine hz_aloadn (pc := 6) 0 (hz_dec kX11_down 4 rfl) rfl ?_
  refine hz_ifnonnull (pc := 7) (tgt := 12) (hz_dec kX11_down 5 rfl) (by decide) ?_
  refine hz_aloadn (pc := 12) 0 (hz_dec kX11_down 8 rfl) rfl ?_
  refine hz_get (pc := 13) (hz_dec kX11_down 9 rfl) fo_X11_166 hn (by omega) (by omega) rfl ?_
  refine hz_z_ne (pc := 16) (tgt := 22) (hz_dec kX11_down 10 rfl) (by decide) (by omega) (fun hq1 => ?_) (fun hq1 => ?_)
  · skip
    exact absurd hq1 (by decide)
  · skip
    refine hz_bipush (pc := 19) (v := (-2)) (hz_dec kX11_down 11 rfl) (by decide) ?_
    exact hz_iret (pc := 21) (hz_dec kX11_down 12 rfl) rfl (hcP.no hR _)
set_option maxHeartbeats 4000000 in
set_option maxRecDepth 100000 in
theorem c_rdownD {κ : hz_C} {z B : Nat} {M : hz_M} {H : ho_H} (hnn : (hoN H).length ≤ 6) (hT4 : (hoT H).length ≤ 4000) (hR : hmR M z B H) {v : Nat} (hv : v < (hoN H).length) {N : nd_N} (hN : ndL (hoN H) v = N)  (hup : N.2.1 = false) : hz_Mt κ xX12_down 1 0 0 [.ref B, .int (nI v)] z M (hmP M z B (.int (-2)) H) := by
  refine hz_ent (lo := [(0, .ref B), (1, .int (nI v))]) (by decide) (Nat.le_of_ble_eq_true rfl) rfl ?_
  obtain ⟨hk0_, hE0, ⟨m1, m2, m3⟩, hNd, a5, a6, a7, a8⟩ := id hR
  obtain ⟨⟨fs, hO, hF⟩, -, -, h8, hz⟩ := id hk0_
  obtain ⟨x1, x3, x4, x5, x6, x7, x8⟩ := id m3
  have eSt : stI (ndL (hoN H) v).2.1 = (-2) := by rw [hN, hup]; rfl
  refine hz_aloadn (pc := 0) 0 (hz_dec kX12_down 0 rfl) rfl ?_
  refine hz_iconst (pc := 1) (v := nI 0) (hz_dec kX12_down 1 rfl) (by decide) ?_
  refine hz_puti (pc := 2) (hz_dec kX12_down 2 rfl) fo_X12_302 ft_X12_0 hO h8 (by omega) (by rw [hF.1]; decide) ?_
  have hf1 : mfr B [0, 89] [] M (va_up M B (.inr (12, (List.set fs 0 (.int (nI 0)))))) := (mfr.rf ⟨fs, hO, hF⟩).upO (k := 0) hO hF rfl rfl
  have hR1 : hmR (va_up M B (.inr (12, (List.set fs 0 (.int (nI 0)))))) z B H := hR.m0 hf1 hE0.upO ((fdB_of (va_up_self _ _ _) 89).trans ((List.getElem?_set_ne (by decide)).trans ((fdB_of hO 89).symm.trans x8)))
  generalize (va_up M B (.inr (12, (List.set fs 0 (.int (nI 0)))))) = M1 at *
  obtain ⟨hk1, hE1, ⟨n1, d1, q1⟩, hNd1, a51, a61, a71, a81⟩ := id hR1
  obtain ⟨⟨fs1, hO1, hF1⟩, -, -, -, -⟩ := id hk1
  refine hz_aloadn (pc := 5) 0 (hz_dec kX12_down 3 rfl) rfl ?_
  refine hz_iloadn (pc := 6) 1 (hz_dec kX12_down 4 rfl) rfl ?_
  refine hz_xV (pc := 7) (a := B) (As := [.int (nI v)]) (st := []) (hz_dec kX12_down 5 rfl) co_X12_692 im_X12_stateOf se_X12_stateOf rfl hO1 h8 (by omega) (c_st hnn hR1 hv) rfl (by decide) ⟨Nat.le_refl _, Nat.le_refl _⟩ (Nat.le_of_ble_eq_true rfl) rfl ?_
  refine hz_eqi (pc := 10) eSt ?_
  refine hz_istoren (pc := 10) (i := 2) (lo2 := [(2, .int (-2)), (0, .ref B), (1, .int (nI v))]) (hz_dec kX12_down 6 rfl) rfl (by decide) rfl ?_
  refine hz_iloadn (pc := 11) 0 (hz_dec kX12_down 7 rfl) rfl ?_
  refine hz_if_ge (pc := 12) (tgt := 17) (hz_dec kX12_down 8 rfl) (by decide) (fun hq1 => ?_) (fun hq1 => ?_)
  · skip
    exact absurd hq1 (by decide)
  · skip
    refine hz_iloadn (pc := 15) 0 (hz_dec kX12_down 9 rfl) rfl ?_
    exact hz_iret (pc := 16) (hz_dec kX12_down 10 rfl) rfl ⟨rfl, rfl, hf1.S rfl, hR1⟩
set_option maxHeartbeats 4000000 in
set_option maxRecDepth 100000 in
theorem c_fuse {κ : hz_C} {z : Nat} {M : hz_M} {H : ho_H} (hz : 63 + 34 * (hoN H).length ≤ z) (hnn : (hoN H).length ≤ 6) (hT4 : (hoT H).length ≤ 4000) {ll : Nat} {fr kn : Int32} (hR : hcR M z H ll fr kn) {v : Nat} (hv : v < (hoN H).length) {N : nd_N} (hN : ndL (hoN H) v = N) {n : Int32} (hup : N.2.1 = true) : hz_Mt κ xX11_fuse 1 0 0 [.ref 8, .int (nI v), .int n] z M (hcP M z H (.int (nI 0)) (hoS H v (ndo N (fuI n) true) (hoQ H))) := by
  refine hz_ent (lo := [(0, .ref 8), (1, .int (nI v)), (2, .int n)]) (by decide) (Nat.le_of_ble_eq_true rfl) rfl ?_
  have hH := hR.1
  have hNs := hR.2.1
  obtain ⟨hO, hQ, hD⟩ := id hR.2.2.2.2.1
  obtain ⟨g53, h53⟩ := hR.2.2.2.2.2.1
  have hJ := hR.2.2.2.1
  obtain ⟨g56, h56, hT56⟩ := hR.2.2.2.2.2.2.2.2.2.1
  have hdf := hR.2.2.2.2.2.2.2.2.2.2
  have hck : ck_k M z := hJ.2.2.2.2.2.2.2.1
  have hcs : ck_s M := hJ.2.2.2.2.2.2.2.2.1
  have hz63 : 63 ≤ z := by omega
  have hK := hR.2.2.1 v hv
  rw [hN] at hK
  obtain ⟨hn, ⟨gd, hgd, hgD⟩, hT, hC, hP, hL⟩ := id hK
  have hn : M (63 + 34 * v) = ndO (63 + 34 * v) (nI v) (nI 1) (nI (ksN N.1)) (pvI (ksF N.1)) N.2.2.1 N.2.2.2 := by rw [hup] at hn; exact hn
  refine hz_aloadn (pc := 0) 0 (hz_dec kX11_fuse 0 rfl) rfl ?_
  refine hz_iloadn (pc := 1) 1 (hz_dec kX11_fuse 1 rfl) rfl ?_
  refine hz_xV (pc := 2) (a := 8) (As := [.int (nI v)]) (st := []) (hz_dec kX11_fuse 2 rfl) co_X11_162 im_X11_nodeOf se_X11_nodeOf rfl hH (by omega) (by omega) (c_nOf hz63 hH hnn hNs (b := v) hv) rfl (by decide) ⟨Nat.le_refl _, Nat.le_refl _⟩ (Nat.le_of_ble_eq_true rfl) rfl ?_
  refine hz_astoren (pc := 5) (i := 3) (lo2 := [(3, .ref (63 + 34 * v)), (0, .ref 8), (1, .int (nI v)), (2, .int n)]) (hz_dec kX11_fuse 3 rfl) rfl (by decide) rfl ?_
  refine hz_aloadn (pc := 6) 0 (hz_dec kX11_fuse 4 rfl) rfl ?_
  refine hz_ifnonnull (pc := 7) (tgt := 12) (hz_dec kX11_fuse 5 rfl) (by decide) ?_
  refine hz_aloadn (pc := 12) 0 (hz_dec kX11_fuse 8 rfl) rfl ?_
  refine hz_get (pc := 13) (hz_dec kX11_fuse 9 rfl) fo_X11_166 hn (by omega) (by omega) rfl ?_
  refine hz_z_ne (pc := 16) (tgt := 22) (hz_dec kX11_fuse 10 rfl) (by decide) (by omega) (fun hq1 => ?_) (fun hq1 => ?_)
  · skip
    refine hz_aloadn (pc := 22) 0 (hz_dec kX11_fuse 13 rfl) rfl ?_
    refine hz_iloadn (pc := 23) 3 (hz_dec kX11_fuse 14 rfl) rfl ?_
    refine hz_if_ge (pc := 24) (tgt := 31) (hz_dec kX11_fuse 15 rfl) (by decide) (fun h1 => ?_) (fun h1 => ?_)
    · skip
      have ef := fuI_p (fun c => absurd h1 (Int32.not_le.mpr c))
      refine hz_iloadn (pc := 31) 3 (hz_dec kX11_fuse 18 rfl) rfl ?_
      refine hz_puti (pc := 32) (hz_dec kX11_fuse 19 rfl) fo_X11_374 ft_X6_4 hn (by omega) (by omega) (Nat.le_of_ble_eq_true rfl) ?_
      refine hz_mem (pc := 35) (M2 := (va_up M (63 + 34 * v) (.inr (6, [.int (nI v), .int (nI 1), .ref (63 + 34 * v + 1), .int (nI (ksN N.1)), .int n, .ref (63 + 34 * v + 21), .ref (63 + 34 * v + 2), .ref (63 + 34 * v + 10), .ref (63 + 34 * v + 13), .ref (63 + 34 * v + 14), .ref (63 + 34 * v + 15), .ref (63 + 34 * v + 18), .int N.2.2.1, .int N.2.2.2])))) rfl ?_
      refine hz_iconst (pc := 35) (v := nI 0) (hz_dec kX11_fuse 20 rfl) (by decide) ?_
      have hf : frS [(63 + 34 * v, 63 + 34 * v + 34)] M (va_up M (63 + 34 * v) (.inr (6, [.int (nI v), .int (nI 1), .ref (63 + 34 * v + 1), .int (nI (ksN N.1)), .int n, .ref (63 + 34 * v + 21), .ref (63 + 34 * v + 2), .ref (63 + 34 * v + 10), .ref (63 + 34 * v + 13), .ref (63 + 34 * v + 14), .ref (63 + 34 * v + 15), .ref (63 + 34 * v + 18), .int N.2.2.1, .int N.2.2.2]))) := ((frS.rf (S := [(63 + 34 * v, 63 + 34 * v + 34)])).upr (a := 63 + 34 * v) (by simp only [outS, and_true]; omega))
      have hR2 : hcR (va_up M (63 + 34 * v) (.inr (6, [.int (nI v), .int (nI 1), .ref (63 + 34 * v + 1), .int (nI (ksN N.1)), .int n, .ref (63 + 34 * v + 21), .ref (63 + 34 * v + 2), .ref (63 + 34 * v + 10), .ref (63 + 34 * v + 13), .ref (63 + 34 * v + 14), .ref (63 + 34 * v + 15), .ref (63 + 34 * v + 18), .int N.2.2.1, .int N.2.2.2]))) z (hoS H v (ndo N (fuI n) true) (hoQ H)) ll fr kn := by have q := hR.n hv (N := ndo N (fuI n) true) (M2 := va_up M (63 + 34 * v) (ndO (63 + 34 * v) (nI v) (hz_b true) (nI (ksN N.1)) (pvI (fuI n)) N.2.2.1 N.2.2.2)) (frS.rf.upr (a := 63 + 34 * v) (by simp only [outS, and_true]; omega)) (hK.o (fuI n) true); rw [ef] at q; exact q
      exact hz_iret (pc := 36) (hz_dec kX11_fuse 21 rfl) rfl ⟨rfl, rfl, (hf.mono (fun q (h9 : outS [(8, 63 + 34 * (hoN H).length)] q) => ⟨by have r := h9.1; omega, trivial⟩)), ll, fr, kn, hR2⟩
    · skip
      have ef := fuI_n (Int32.not_le.mp h1)
      refine hz_iconst (pc := 27) (v := (-1)) (hz_dec kX11_fuse 16 rfl) (by decide) ?_
      refine hz_goto (pc := 28) (tgt := 32) (hz_dec kX11_fuse 17 rfl) (by decide) ?_
      refine hz_puti (pc := 32) (hz_dec kX11_fuse 19 rfl) fo_X11_374 ft_X6_4 hn (by omega) (by omega) (Nat.le_of_ble_eq_true rfl) ?_
      refine hz_mem (pc := 35) (M2 := (va_up M (63 + 34 * v) (.inr (6, [.int (nI v), .int (nI 1), .ref (63 + 34 * v + 1), .int (nI (ksN N.1)), .int (-1), .ref (63 + 34 * v + 21), .ref (63 + 34 * v + 2), .ref (63 + 34 * v + 10), .ref (63 + 34 * v + 13), .ref (63 + 34 * v + 14), .ref (63 + 34 * v + 15), .ref (63 + 34 * v + 18), .int N.2.2.1, .int N.2.2.2])))) rfl ?_
      refine hz_iconst (pc := 35) (v := nI 0) (hz_dec kX11_fuse 20 rfl) (by decide) ?_
      have hf : frS [(63 + 34 * v, 63 + 34 * v + 34)] M (va_up M (63 + 34 * v) (.inr (6, [.int (nI v), .int (nI 1), .ref (63 + 34 * v + 1), .int (nI (ksN N.1)), .int (-1), .ref (63 + 34 * v + 21), .ref (63 + 34 * v + 2), .ref (63 + 34 * v + 10), .ref (63 + 34 * v + 13), .ref (63 + 34 * v + 14), .ref (63 + 34 * v + 15), .ref (63 + 34 * v + 18), .int N.2.2.1, .int N.2.2.2]))) := ((frS.rf (S := [(63 + 34 * v, 63 + 34 * v + 34)])).upr (a := 63 + 34 * v) (by simp only [outS, and_true]; omega))
      have hR2 : hcR (va_up M (63 + 34 * v) (.inr (6, [.int (nI v), .int (nI 1), .ref (63 + 34 * v + 1), .int (nI (ksN N.1)), .int (-1), .ref (63 + 34 * v + 21), .ref (63 + 34 * v + 2), .ref (63 + 34 * v + 10), .ref (63 + 34 * v + 13), .ref (63 + 34 * v + 14), .ref (63 + 34 * v + 15), .ref (63 + 34 * v + 18), .int N.2.2.1, .int N.2.2.2]))) z (hoS H v (ndo N (fuI n) true) (hoQ H)) ll fr kn := by have q := hR.n hv (N := ndo N (fuI n) true) (M2 := va_up M (63 + 34 * v) (ndO (63 + 34 * v) (nI v) (hz_b true) (nI (ksN N.1)) (pvI (fuI n)) N.2.2.1 N.2.2.2)) (frS.rf.upr (a := 63 + 34 * v) (by simp only [outS, and_true]; omega)) (hK.o (fuI n) true); rw [ef] at q; exact q
      exact hz_iret (pc := 36) (hz_dec kX11_fuse 21 rfl) rfl ⟨rfl, rfl, (hf.mono (fun q (h9 : outS [(8, 63 + 34 * (hoN H).length)] q) => ⟨by have r := h9.1; omega, trivial⟩)), ll, fr, kn, hR2⟩
  · skip
    exact absurd hq1 (by decide)
set_option maxHeartbeats 4000000 in
set_option maxRecDepth 100000 in
theorem c_rfuse {κ : hz_C} {z B : Nat} {M : hz_M} {H : ho_H} (hnn : (hoN H).length ≤ 6) (hT4 : (hoT H).length ≤ 4000) (hR : hmR M z B H) {v : Nat} (hv : v < (hoN H).length) {N : nd_N} (hN : ndL (hoN H) v = N) {n : Int32} (hup : N.2.1 = true) (hX : hoX H) : hz_Mt κ xX12_fuse 1 0 0 [.ref B, .int (nI v), .int n] z M (hmP M z B (.int (nI 0)) (hoS H v (ndo N (fuI n) true) (hoQ H))) := by
  refine hz_ent (lo := [(0, .ref B), (1, .int (nI v)), (2, .int n)]) (by decide) (Nat.le_of_ble_eq_true rfl) rfl ?_
  obtain ⟨hk0_, hE0, ⟨m1, m2, m3⟩, hNd, a5, a6, a7, a8⟩ := id hR
  obtain ⟨⟨fs, hO, hF⟩, -, -, h8, hz⟩ := id hk0_
  obtain ⟨x1, x3, x4, x5, x6, x7, x8⟩ := id m3
  have eSt : stI (ndL (hoN H) v).2.1 = nI 0 := by rw [hN, hup]; rfl
  refine hz_aloadn (pc := 0) 0 (hz_dec kX12_fuse 0 rfl) rfl ?_
  refine hz_iconst (pc := 1) (v := nI 0) (hz_dec kX12_fuse 1 rfl) (by decide) ?_
  refine hz_puti (pc := 2) (hz_dec kX12_fuse 2 rfl) fo_X12_302 ft_X12_0 hO h8 (by omega) (by rw [hF.1]; decide) ?_
  have hf1 : mfr B [0, 89] [] M (va_up M B (.inr (12, (List.set fs 0 (.int (nI 0)))))) := (mfr.rf ⟨fs, hO, hF⟩).upO (k := 0) hO hF rfl rfl
  have hR1 : hmR (va_up M B (.inr (12, (List.set fs 0 (.int (nI 0)))))) z B H := hR.m0 hf1 hE0.upO ((fdB_of (va_up_self _ _ _) 89).trans ((List.getElem?_set_ne (by decide)).trans ((fdB_of hO 89).symm.trans x8)))
  generalize (va_up M B (.inr (12, (List.set fs 0 (.int (nI 0)))))) = M1 at *
  obtain ⟨hk1, hE1, ⟨n1, d1, q1⟩, hNd1, a51, a61, a71, a81⟩ := id hR1
  obtain ⟨⟨fs1, hO1, hF1⟩, -, -, -, -⟩ := id hk1
  refine hz_aloadn (pc := 5) 0 (hz_dec kX12_fuse 3 rfl) rfl ?_
  refine hz_iloadn (pc := 6) 1 (hz_dec kX12_fuse 4 rfl) rfl ?_
  refine hz_xV (pc := 7) (a := B) (As := [.int (nI v)]) (st := []) (hz_dec kX12_fuse 5 rfl) co_X12_692 im_X12_stateOf se_X12_stateOf rfl hO1 h8 (by omega) (c_st hnn hR1 hv) rfl (by decide) ⟨Nat.le_refl _, Nat.le_refl _⟩ (Nat.le_of_ble_eq_true rfl) rfl ?_
  refine hz_eqi (pc := 10) eSt ?_
  refine hz_istoren (pc := 10) (i := 3) (lo2 := [(3, .int (nI 0)), (0, .ref B), (1, .int (nI v)), (2, .int n)]) (hz_dec kX12_fuse 6 rfl) rfl (by decide) rfl ?_
  refine hz_iloadn (pc := 11) 0 (hz_dec kX12_fuse 7 rfl) rfl ?_
  refine hz_z_ge (pc := 12) (tgt := 17) (hz_dec kX12_fuse 8 rfl) (by decide) (by omega) ?_
  refine hz_aloadn (pc := 17) 1 (hz_dec kX12_fuse 11 rfl) rfl ?_
  refine hz_get (pc := 18) (v := .ref (B + 19)) (hz_dec kX12_fuse 12 rfl) fo_X12_68 hO1 h8 (by omega) (hF1.2 21 (by decide) (by decide)) ?_
  refine hz_iloadn (pc := 21) 2 (hz_dec kX12_fuse 13 rfl) rfl ?_
  refine hz_iloadn (pc := 22) 3 (hz_dec kX12_fuse 14 rfl) rfl ?_
  refine hz_if_ge (pc := 23) (tgt := 30) (hz_dec kX12_fuse 15 rfl) (by decide) (fun h1 => ?_) (fun h1 => ?_)
  · skip
    have ef := fuI_p (fun c => absurd h1 (Int32.not_le.mpr c))
    refine hz_iloadn (pc := 30) 3 (hz_dec kX12_fuse 18 rfl) rfl ?_
    refine hz_iast (pc := 31) (j := v) (hz_dec kX12_fuse 19 rfl) hE1.a19 (by omega) (by omega) rfl (by omega) (by decide) ?_
    refine hz_iconst (pc := 32) (v := nI 0) (hz_dec kX12_fuse 20 rfl) (by decide) ?_
    have hf2 : mfr B [] [19] M1 (va_up M1 (B + 19) (.inl (0, 6, .inl (upd (fA M1 B 19) v ((n)))))) := ((mfr.rf (ks := []) (os := [19]) hk1.1).upA (o := 19) rfl (by decide))
    have hE2 : mdE (va_up M1 (B + 19) (.inl (0, 6, .inl (upd (fA M1 B 19) v ((n)))))) B := (hE1.upA (k := 19) (t := 0) (n := 6) (by decide))
    have hag : agV M1 (va_up M1 (B + 19) (.inl (0, 6, .inl (upd (fA M1 B 19) v ((n)))))) B v := (agV.rf (v := v)).upA (o := 19) (s := 1) (by decide) (by decide) (fun x hx => upd_o (by omega))
    have hcw : cvW M1 (va_up M1 (B + 19) (.inl (0, 6, .inl (upd (fA M1 B 19) v ((n)))))) B v := (cvK.mf hf2 rfl rfl rfl rfl (bl := []) (en := [])).w
    have h0 : mdN M1 B v N := by have q := hNd1 v hv; rw [hN] at q; exact q
    have h01 := h0.1
    have h02 := h0.2.1
    rw [hup] at h01 h02
    have h19 : fA (va_up M1 (B + 19) (.inl (0, 6, .inl (upd (fA M1 B 19) v ((n)))))) B 19 v = pvI (fuI n) := by rw [fA_of (va_up_self _ _ _), upd_s, ef]
    have hNn : mdN (va_up M1 (B + 19) (.inl (0, 6, .inl (upd (fA M1 B 19) v ((n)))))) B v (ndo N (fuI n) true) := ⟨h01.f19 hf2 h19 (fuI n), h02.mf hf2 rfl, by rw [fA_m hf2 (by decide) rfl]; exact h0.2.2.1, by rw [fA_m hf2 (by decide) rfl]; exact h0.2.2.2⟩
    have hR2 : hmR (va_up M1 (B + 19) (.inl (0, 6, .inl (upd (fA M1 B 19) v ((n)))))) z B (hoS H v (ndo N (fuI n) true) (hoQ H)) := hR1.put hnn hv hX.1 hf2 rfl rfl rfl rfl rfl rfl rfl rfl rfl rfl rfl rfl rfl hE2 hag hcw (q := hoQ H) (hR1.2.2.1.mf hf2 rfl rfl) hNn
    exact hz_iret (pc := 33) (hz_dec kX12_fuse 21 rfl) rfl ⟨rfl, rfl, (hf1.S rfl).tr (hf2.S rfl), hR2⟩
  · skip
    have ef := fuI_n (Int32.not_le.mp h1)
    refine hz_iconst (pc := 26) (v := (-1)) (hz_dec kX12_fuse 16 rfl) (by decide) ?_
    refine hz_goto (pc := 27) (tgt := 31) (hz_dec kX12_fuse 17 rfl) (by decide) ?_
    refine hz_iast (pc := 31) (j := v) (hz_dec kX12_fuse 19 rfl) hE1.a19 (by omega) (by omega) rfl (by omega) (by decide) ?_
    refine hz_iconst (pc := 32) (v := nI 0) (hz_dec kX12_fuse 20 rfl) (by decide) ?_
    have hf2 : mfr B [] [19] M1 (va_up M1 (B + 19) (.inl (0, 6, .inl (upd (fA M1 B 19) v (((-1))))))) := ((mfr.rf (ks := []) (os := [19]) hk1.1).upA (o := 19) rfl (by decide))
    have hE2 : mdE (va_up M1 (B + 19) (.inl (0, 6, .inl (upd (fA M1 B 19) v (((-1))))))) B := (hE1.upA (k := 19) (t := 0) (n := 6) (by decide))
    have hag : agV M1 (va_up M1 (B + 19) (.inl (0, 6, .inl (upd (fA M1 B 19) v (((-1))))))) B v := (agV.rf (v := v)).upA (o := 19) (s := 1) (by decide) (by decide) (fun x hx => upd_o (by omega))
    have hcw : cvW M1 (va_up M1 (B + 19) (.inl (0, 6, .inl (upd (fA M1 B 19) v (((-1))))))) B v := (cvK.mf hf2 rfl rfl rfl rfl (bl := []) (en := [])).w
    have h0 : mdN M1 B v N := by have q := hNd1 v hv; rw [hN] at q; exact q
    have h01 := h0.1
    have h02 := h0.2.1
    rw [hup] at h01 h02
    have h19 : fA (va_up M1 (B + 19) (.inl (0, 6, .inl (upd (fA M1 B 19) v (((-1))))))) B 19 v = pvI (fuI n) := by rw [fA_of (va_up_self _ _ _), upd_s, ef]
    have hNn : mdN (va_up M1 (B + 19) (.inl (0, 6, .inl (upd (fA M1 B 19) v (((-1))))))) B v (ndo N (fuI n) true) := ⟨h01.f19 hf2 h19 (fuI n), h02.mf hf2 rfl, by rw [fA_m hf2 (by decide) rfl]; exact h0.2.2.1, by rw [fA_m hf2 (by decide) rfl]; exact h0.2.2.2⟩
    have hR2 : hmR (va_up M1 (B + 19) (.inl (0, 6, .inl (upd (fA M1 B 19) v (((-1))))))) z B (hoS H v (ndo N (fuI n) true) (hoQ H)) := hR1.put hnn hv hX.1 hf2 rfl rfl rfl rfl rfl rfl rfl rfl rfl rfl rfl rfl rfl hE2 hag hcw (q := hoQ H) (hR1.2.2.1.mf hf2 rfl rfl) hNn
    exact hz_iret (pc := 33) (hz_dec kX12_fuse 21 rfl) rfl ⟨rfl, rfl, (hf1.S rfl).tr (hf2.S rfl), hR2⟩
set_option maxHeartbeats 4000000 in
set_option maxRecDepth 100000 in
theorem c_down {κ : hz_C} {z : Nat} {M : hz_M} {H : ho_H} (hz : 63 + 34 * (hoN H).length ≤ z) (hnn : (hoN H).length ≤ 6) (hT4 : (hoT H).length ≤ 4000) {ll : Nat} {fr kn : Int32} (hR : hcR M z H ll fr kn) {v : Nat} (hv : v < (hoN H).length) {N : nd_N} (hN : ndL (hoN H) v = N) (hup : N.2.1 = true) : hz_Mt κ xX11_down 1 0 0 [.ref 8, .int (nI v)] z M (hcP M z H (.int (nI (ksB N.1).length)) (hoS H v (ndo N (ksF N.1) false) (hoQ H))) := by
  refine hz_ent (lo := [(0, .ref 8), (1, .int (nI v))]) (by decide) (Nat.le_of_ble_eq_true rfl) rfl ?_
  have hH := hR.1
  have hNs := hR.2.1
  obtain ⟨hO, hQ, hD⟩ := id hR.2.2.2.2.1
  obtain ⟨g53, h53⟩ := hR.2.2.2.2.2.1
  have hJ := hR.2.2.2.1
  obtain ⟨g56, h56, hT56⟩ := hR.2.2.2.2.2.2.2.2.2.1
  have hdf := hR.2.2.2.2.2.2.2.2.2.2
  have hck : ck_k M z := hJ.2.2.2.2.2.2.2.1
  have hcs : ck_s M := hJ.2.2.2.2.2.2.2.2.1
  have hz63 : 63 ≤ z := by omega
  have hK := hR.2.2.1 v hv
  rw [hN] at hK
  obtain ⟨hn, ⟨gd, hgd, hgD⟩, hT, hC, hP, hL⟩ := id hK
  have hn : M (63 + 34 * v) = ndO (63 + 34 * v) (nI v) (nI 1) (nI (ksN N.1)) (pvI (ksF N.1)) N.2.2.1 N.2.2.2 := by rw [hup] at hn; exact hn
  have htO := hT.1
  have htR := hT.2.1.1
  rw [List.length_map] at htR
  refine hz_aloadn (pc := 0) 0 (hz_dec kX11_down 0 rfl) rfl ?_
  refine hz_iloadn (pc := 1) 1 (hz_dec kX11_down 1 rfl) rfl ?_
  refine hz_xV (pc := 2) (a := 8) (As := [.int (nI v)]) (st := []) (hz_dec kX11_down 2 rfl) co_X11_162 im_X11_nodeOf se_X11_nodeOf rfl hH (by omega) (by omega) (c_nOf hz63 hH hnn hNs (b := v) hv) rfl (by decide) ⟨Nat.le_refl _, Nat.le_refl _⟩ (Nat.le_of_ble_eq_true rfl) rfl ?_
  refine hz_astoren (pc := 5) (i := 2) (lo2 := [(2, .ref (63 + 34 * v)), (0, .ref 8), (1, .int (nI v))]) (hz_dec kX11_down 3 rfl) rfl (by decide) rfl ?_
  refine hz_aloadn (pc := 6) 0 (hz_dec kX11_down 4 rfl) rfl ?_
  refine hz_ifnonnull (pc := 7) (tgt := 12) (hz_dec kX11_down 5 rfl) (by decide) ?_
  refine hz_aloadn (pc := 12) 0 (hz_dec kX11_down 8 rfl) rfl ?_
  refine hz_get (pc := 13) (hz_dec kX11_down 9 rfl) fo_X11_166 hn (by omega) (by omega) rfl ?_
  refine hz_z_ne (pc := 16) (tgt := 22) (hz_dec kX11_down 10 rfl) (by decide) (by omega) (fun hq1 => ?_) (fun hq1 => ?_)
  · skip
    refine hz_aloadn (pc := 22) 0 (hz_dec kX11_down 13 rfl) rfl ?_
    refine hz_iconst (pc := 23) (v := nI 0) (hz_dec kX11_down 14 rfl) (by decide) ?_
    refine hz_putz (pc := 24) (hz_dec kX11_down 15 rfl) fo_X11_166 ft_X6_1 hn (by omega) (by omega) (Nat.le_of_ble_eq_true rfl) rfl rfl ?_
    refine hz_mem (pc := 27) (M2 := (va_up M (63 + 34 * v) (.inr (6, [.int (nI v), .int (nI 0), .ref (63 + 34 * v + 1), .int (nI (ksN N.1)), .int (pvI (ksF N.1)), .ref (63 + 34 * v + 21), .ref (63 + 34 * v + 2), .ref (63 + 34 * v + 10), .ref (63 + 34 * v + 13), .ref (63 + 34 * v + 14), .ref (63 + 34 * v + 15), .ref (63 + 34 * v + 18), .int N.2.2.1, .int N.2.2.2])))) rfl ?_
    refine hz_aloadn (pc := 27) 0 (hz_dec kX11_down 16 rfl) rfl ?_
    refine hz_get (pc := 28) (hz_dec kX11_down 17 rfl) fo_X11_104 (va_up_self _ _ _) (by omega) (by omega) rfl ?_
    refine hz_get (pc := 31) (hz_dec kX11_down 18 rfl) fo_X11_217 (hz_mne htO (by omega)) (by omega) (by omega) rfl ?_
    refine hz_get (pc := 34) (hz_dec kX11_down 19 rfl) fo_X11_220 (hz_mne htR (by omega)) (by omega) (by omega) rfl ?_
    have hf : frS [(63 + 34 * v, 63 + 34 * v + 34)] M (va_up M (63 + 34 * v) (.inr (6, [.int (nI v), .int (nI 0), .ref (63 + 34 * v + 1), .int (nI (ksN N.1)), .int (pvI (ksF N.1)), .ref (63 + 34 * v + 21), .ref (63 + 34 * v + 2), .ref (63 + 34 * v + 10), .ref (63 + 34 * v + 13), .ref (63 + 34 * v + 14), .ref (63 + 34 * v + 15), .ref (63 + 34 * v + 18), .int N.2.2.1, .int N.2.2.2]))) := ((frS.rf (S := [(63 + 34 * v, 63 + 34 * v + 34)])).upr (a := 63 + 34 * v) (by simp only [outS, and_true]; omega))
    have hR2 : hcR (va_up M (63 + 34 * v) (.inr (6, [.int (nI v), .int (nI 0), .ref (63 + 34 * v + 1), .int (nI (ksN N.1)), .int (pvI (ksF N.1)), .ref (63 + 34 * v + 21), .ref (63 + 34 * v + 2), .ref (63 + 34 * v + 10), .ref (63 + 34 * v + 13), .ref (63 + 34 * v + 14), .ref (63 + 34 * v + 15), .ref (63 + 34 * v + 18), .int N.2.2.1, .int N.2.2.2]))) z (hoS H v (ndo N (ksF N.1) false) (hoQ H)) ll fr kn := hR.n hv hf (hK.o (ksF N.1) false)
    exact hz_iret (pc := 37) (hz_dec kX11_down 20 rfl) rfl ⟨rfl, rfl, (hf.mono (fun q (h9 : outS [(8, 63 + 34 * (hoN H).length)] q) => ⟨by have r := h9.1; omega, trivial⟩)), ll, fr, kn, hR2⟩
  · skip
    exact absurd hq1 (by decide)
set_option maxHeartbeats 4000000 in
set_option maxRecDepth 100000 in
theorem c_rdown {κ : hz_C} {z B : Nat} {M : hz_M} {H : ho_H} (hnn : (hoN H).length ≤ 6) (hT4 : (hoT H).length ≤ 4000) (hR : hmR M z B H) {v : Nat} (hv : v < (hoN H).length) {N : nd_N} (hN : ndL (hoN H) v = N) (hup : N.2.1 = true) (hX : hoX H) : hz_Mt κ xX12_down 1 0 0 [.ref B, .int (nI v)] z M (hmP M z B (.int (nI (ksB N.1).length)) (hoS H v (ndo N (ksF N.1) false) (hoQ H))) := by
  refine hz_ent (lo := [(0, .ref B), (1, .int (nI v))]) (by decide) (Nat.le_of_ble_eq_true rfl) rfl ?_
  obtain ⟨hk0_, hE0, ⟨m1, m2, m3⟩, hNd, a5, a6, a7, a8⟩ := id hR
  obtain ⟨⟨fs, hO, hF⟩, -, -, h8, hz⟩ := id hk0_
  obtain ⟨x1, x3, x4, x5, x6, x7, x8⟩ := id m3
  have eSt : stI (ndL (hoN H) v).2.1 = nI 0 := by rw [hN, hup]; rfl
  refine hz_aloadn (pc := 0) 0 (hz_dec kX12_down 0 rfl) rfl ?_
  refine hz_iconst (pc := 1) (v := nI 0) (hz_dec kX12_down 1 rfl) (by decide) ?_
  refine hz_puti (pc := 2) (hz_dec kX12_down 2 rfl) fo_X12_302 ft_X12_0 hO h8 (by omega) (by rw [hF.1]; decide) ?_
  have hf1 : mfr B [0, 89] [] M (va_up M B (.inr (12, (List.set fs 0 (.int (nI 0)))))) := (mfr.rf ⟨fs, hO, hF⟩).upO (k := 0) hO hF rfl rfl
  have hR1 : hmR (va_up M B (.inr (12, (List.set fs 0 (.int (nI 0)))))) z B H := hR.m0 hf1 hE0.upO ((fdB_of (va_up_self _ _ _) 89).trans ((List.getElem?_set_ne (by decide)).trans ((fdB_of hO 89).symm.trans x8)))
  generalize (va_up M B (.inr (12, (List.set fs 0 (.int (nI 0)))))) = M1 at *
  obtain ⟨hk1, hE1, ⟨n1, d1, q1⟩, hNd1, a51, a61, a71, a81⟩ := id hR1
  obtain ⟨⟨fs1, hO1, hF1⟩, -, -, -, -⟩ := id hk1
  refine hz_aloadn (pc := 5) 0 (hz_dec kX12_down 3 rfl) rfl ?_
  refine hz_iloadn (pc := 6) 1 (hz_dec kX12_down 4 rfl) rfl ?_
  refine hz_xV (pc := 7) (a := B) (As := [.int (nI v)]) (st := []) (hz_dec kX12_down 5 rfl) co_X12_692 im_X12_stateOf se_X12_stateOf rfl hO1 h8 (by omega) (c_st hnn hR1 hv) rfl (by decide) ⟨Nat.le_refl _, Nat.le_refl _⟩ (Nat.le_of_ble_eq_true rfl) rfl ?_
  refine hz_eqi (pc := 10) eSt ?_
  refine hz_istoren (pc := 10) (i := 2) (lo2 := [(2, .int (nI 0)), (0, .ref B), (1, .int (nI v))]) (hz_dec kX12_down 6 rfl) rfl (by decide) rfl ?_
  refine hz_iloadn (pc := 11) 0 (hz_dec kX12_down 7 rfl) rfl ?_
  refine hz_z_ge (pc := 12) (tgt := 17) (hz_dec kX12_down 8 rfl) (by decide) (by omega) ?_
  refine hz_aloadn (pc := 17) 1 (hz_dec kX12_down 11 rfl) rfl ?_
  refine hz_iloadn (pc := 18) 2 (hz_dec kX12_down 12 rfl) rfl ?_
  refine hz_callV (pc := 19) (a := B) (As := [.int (nI v)]) (st := []) (hz_dec kX12_down 13 rfl) co_X12_588 im_X12_goDown se_X12_goDown rfl hO1 h8 (by omega) (c_goDown hk1.1 hE1 h8 hz (v := v) (by omega)) rfl (by decide) ⟨Nat.le_refl _, Nat.le_refl _⟩ (Nat.le_of_ble_eq_true rfl) rfl (fun r9 z9 M2 hp9 => ?_)
  obtain ⟨rfl, rfl, hf2, hE2, e16, e58, e67, e19, hag⟩ := hp9
  have h0 : mdN M1 B v N := by have q := hNd1 v hv; rw [hN] at q; exact q
  obtain ⟨p1, p2, p3, -, p5, -, p7, p9⟩ := h0.1
  have hNn : mdN M2 B v (ndo N (ksF N.1) false) := ⟨⟨e16, by rw [fA_m hf2 (by decide) rfl]; exact p2, by rw [fA_m hf2 (by decide) rfl]; exact p3, e19, p5.mf hf2 rfl, ⟨e58, fun k hk => absurd hk (Nat.not_lt_zero k)⟩, p7.mf hf2 rfl rfl rfl rfl, by unfold mnP; rw [fA_m hf2 (by decide) rfl]; exact p9⟩, ⟨e67, fun k hk => absurd hk (Nat.not_lt_zero k)⟩, by rw [fA_m hf2 (by decide) rfl]; exact h0.2.2.1, by rw [fA_m hf2 (by decide) rfl]; exact h0.2.2.2⟩
  have hcw : cvW M1 M2 B v := (cvK.mf hf2 rfl rfl rfl rfl (bl := []) (en := [])).w
  have hR2 : hmR M2 z B (hoS H v (ndo N (ksF N.1) false) (hoQ H)) := hR1.put hnn hv hX.1 hf2 rfl rfl rfl rfl rfl rfl rfl rfl rfl rfl rfl rfl rfl hE2 hag hcw (q := hoQ H) (hR1.2.2.1.mf hf2 rfl rfl) hNn
  have e20 : fA M2 B 20 v = nI (ksB N.1).length := by rw [fA_m hf2 (by decide) rfl]; exact p5.2.1.1
  obtain ⟨fs2, hO2, hF2⟩ := id hf2.2.1
  refine hz_aloadn (pc := 22) 1 (hz_dec kX12_down 14 rfl) rfl ?_
  refine hz_get (pc := 23) (v := .ref (B + 20)) (hz_dec kX12_down 15 rfl) fo_X12_71 hO2 h8 (by omega) (hF2.2 22 (by decide) (by decide)) ?_
  refine hz_iloadn (pc := 26) 2 (hz_dec kX12_down 16 rfl) rfl ?_
  refine hz_iald (pc := 27) (j := v) (hz_dec kX12_down 17 rfl) hE2.a20 (by omega) (by omega) rfl (by omega) (by decide) ?_
  refine hz_eqi (pc := 28) e20 ?_
  exact hz_iret (pc := 28) (hz_dec kX12_down 18 rfl) rfl ⟨rfl, rfl, (hf1.S rfl).tr (hf2.S rfl), hR2⟩
set_option maxHeartbeats 4000000 in
set_option maxRecDepth 100000 in
theorem c_peekN {κ : hz_C} {z : Nat} {M : hz_M} {H : ho_H} (hz : 63 + 34 * (hoN H).length ≤ z) (hnn : (hoN H).length ≤ 6) (hT4 : (hoT H).length ≤ 4000) {ll : Nat} {fr kn : Int32} (hR : hcR M z H ll fr kn) {v : Int32} {i : Int32} (hv : v < 0 ∨ ¬ v < nI (hoN H).length) : hz_Mt κ xX11_peek 1 0 0 [.ref 8, .int v, .int i] z M (hcP M z H (.int (-1)) H) := by
  refine hz_ent (lo := [(0, .ref 8), (1, .int v), (2, .int i)]) (by decide) (Nat.le_of_ble_eq_true rfl) rfl ?_
  have hH := hR.1
  have hNs := hR.2.1
  obtain ⟨hO, hQ, hD⟩ := id hR.2.2.2.2.1
  obtain ⟨g53, h53⟩ := hR.2.2.2.2.2.1
  have hJ := hR.2.2.2.1
  obtain ⟨g56, h56, hT56⟩ := hR.2.2.2.2.2.2.2.2.2.1
  have hdf := hR.2.2.2.2.2.2.2.2.2.2
  have hck : ck_k M z := hJ.2.2.2.2.2.2.2.1
  have hcs : ck_s M := hJ.2.2.2.2.2.2.2.2.1
  have hz63 : 63 ≤ z := by omega
  refine hz_aloadn (pc := 0) 0 (hz_dec kX11_peek 0 rfl) rfl ?_
  refine hz_iloadn (pc := 1) 1 (hz_dec kX11_peek 1 rfl) rfl ?_
  refine hz_xV (pc := 2) (a := 8) (As := [.int v]) (st := []) (hz_dec kX11_peek 2 rfl) co_X11_162 im_X11_nodeOf se_X11_nodeOf rfl hH (by omega) (by omega) (c_nOfN hz63 hH hnn hNs hv) rfl (by decide) ⟨Nat.le_refl _, Nat.le_refl _⟩ (Nat.le_of_ble_eq_true rfl) rfl ?_
  refine hz_astorenN (pc := 5) (i := 3) (lo2 := [(3, .null), (0, .ref 8), (1, .int v), (2, .int i)]) (hz_dec kX11_peek 3 rfl) rfl (by decide) rfl ?_
  refine hz_aloadnN (pc := 6) 0 (hz_dec kX11_peek 4 rfl) rfl ?_
  refine hz_ifnullN (pc := 7) (tgt := 21) (hz_dec kX11_peek 5 rfl) (by decide) ?_
  refine hz_iconst (pc := 21) (v := (-1)) (hz_dec kX11_peek 11 rfl) (by decide) ?_
  refine hz_goto (pc := 22) (tgt := 35) (hz_dec kX11_peek 12 rfl) (by decide) ?_
  exact hz_iret (pc := 35) (hz_dec kX11_peek 19 rfl) rfl (hcP.no hR _)
set_option maxHeartbeats 4000000 in
set_option maxRecDepth 100000 in
theorem c_rpeekN {κ : hz_C} {z B : Nat} {M : hz_M} {H : ho_H} (hnn : (hoN H).length ≤ 6) (hT4 : (hoT H).length ≤ 4000) (hR : hmR M z B H) {v : Int32} {i : Int32} (hv : v < 0 ∨ ¬ v < nI (hoN H).length) : hz_Mt κ xX12_peek 1 0 0 [.ref B, .int v, .int i] z M (hmP M z B (.int (-1)) H) := by
  refine hz_ent (lo := [(0, .ref B), (1, .int v), (2, .int i)]) (by decide) (Nat.le_of_ble_eq_true rfl) rfl ?_
  obtain ⟨hk0_, hE0, ⟨m1, m2, m3⟩, hNd, a5, a6, a7, a8⟩ := id hR
  obtain ⟨⟨fs, hO, hF⟩, -, -, h8, hz⟩ := id hk0_
  obtain ⟨x1, x3, x4, x5, x6, x7, x8⟩ := id m3
  refine hz_aloadn (pc := 0) 0 (hz_dec kX12_peek 0 rfl) rfl ?_
  refine hz_iconst (pc := 1) (v := nI 0) (hz_dec kX12_peek 1 rfl) (by decide) ?_
  refine hz_puti (pc := 2) (hz_dec kX12_peek 2 rfl) fo_X12_302 ft_X12_0 hO h8 (by omega) (by rw [hF.1]; decide) ?_
  have hf1 : mfr B [0, 89] [] M (va_up M B (.inr (12, (List.set fs 0 (.int (nI 0)))))) := (mfr.rf ⟨fs, hO, hF⟩).upO (k := 0) hO hF rfl rfl
  have hR1 : hmR (va_up M B (.inr (12, (List.set fs 0 (.int (nI 0)))))) z B H := hR.m0 hf1 hE0.upO ((fdB_of (va_up_self _ _ _) 89).trans ((List.getElem?_set_ne (by decide)).trans ((fdB_of hO 89).symm.trans x8)))
  generalize (va_up M B (.inr (12, (List.set fs 0 (.int (nI 0)))))) = M1 at *
  obtain ⟨hk1, hE1, ⟨n1, d1, q1⟩, hNd1, a51, a61, a71, a81⟩ := id hR1
  obtain ⟨⟨fs1, hO1, hF1⟩, -, -, -, -⟩ := id hk1
  refine hz_aloadn (pc := 5) 0 (hz_dec kX12_peek 3 rfl) rfl ?_
  refine hz_iloadn (pc := 6) 1 (hz_dec kX12_peek 4 rfl) rfl ?_
  refine hz_xV (pc := 7) (a := B) (As := [.int v]) (st := []) (hz_dec kX12_peek 5 rfl) co_X12_692 im_X12_stateOf se_X12_stateOf rfl hO1 h8 (by omega) (c_stN hnn hR1 hv) rfl (by decide) ⟨Nat.le_refl _, Nat.le_refl _⟩ (Nat.le_of_ble_eq_true rfl) rfl ?_
  refine hz_iconst (pc := 10) (v := (-1)) (hz_dec kX12_peek 6 rfl) (by decide) ?_
  refine hz_icmp_eq (pc := 11) (tgt := 25) (hz_dec kX12_peek 7 rfl) (by decide) (fun hq1 => ?_) (fun hq1 => ?_)
  · skip
    refine hz_iconst (pc := 25) (v := (-1)) (hz_dec kX12_peek 13 rfl) (by decide) ?_
    refine hz_goto (pc := 26) (tgt := 45) (hz_dec kX12_peek 14 rfl) (by decide) ?_
    exact hz_iret (pc := 45) (hz_dec kX12_peek 25 rfl) rfl ⟨rfl, rfl, hf1.S rfl, hR1⟩
  · skip
    exact absurd hq1 (by decide)
set_option maxHeartbeats 4000000 in
set_option maxRecDepth 100000 in
theorem c_pokeN {κ : hz_C} {z : Nat} {M : hz_M} {H : ho_H} (hz : 63 + 34 * (hoN H).length ≤ z) (hnn : (hoN H).length ≤ 6) (hT4 : (hoT H).length ≤ 4000) {ll : Nat} {fr kn : Int32} (hR : hcR M z H ll fr kn) {v : Int32} {i b : Int32} (hv : v < 0 ∨ ¬ v < nI (hoN H).length) : hz_Mt κ xX11_poke 1 0 0 [.ref 8, .int v, .int i, .int b] z M (hcP M z H (.int (-1)) H) := by
  refine hz_ent (lo := [(0, .ref 8), (1, .int v), (2, .int i), (3, .int b)]) (by decide) (Nat.le_of_ble_eq_true rfl) rfl ?_
  have hH := hR.1
  have hNs := hR.2.1
  obtain ⟨hO, hQ, hD⟩ := id hR.2.2.2.2.1
  obtain ⟨g53, h53⟩ := hR.2.2.2.2.2.1
  have hJ := hR.2.2.2.1
  obtain ⟨g56, h56, hT56⟩ := hR.2.2.2.2.2.2.2.2.2.1
  have hdf := hR.2.2.2.2.2.2.2.2.2.2
  have hck : ck_k M z := hJ.2.2.2.2.2.2.2.1
  have hcs : ck_s M := hJ.2.2.2.2.2.2.2.2.1
  have hz63 : 63 ≤ z := by omega
  refine hz_aloadn (pc := 0) 0 (hz_dec kX11_poke 0 rfl) rfl ?_
  refine hz_iloadn (pc := 1) 1 (hz_dec kX11_poke 1 rfl) rfl ?_
  refine hz_xV (pc := 2) (a := 8) (As := [.int v]) (st := []) (hz_dec kX11_poke 2 rfl) co_X11_162 im_X11_nodeOf se_X11_nodeOf rfl hH (by omega) (by omega) (c_nOfN hz63 hH hnn hNs hv) rfl (by decide) ⟨Nat.le_refl _, Nat.le_refl _⟩ (Nat.le_of_ble_eq_true rfl) rfl ?_
  refine hz_astoreN (pc := 5) (i := 4) (lo2 := [(4, .null), (0, .ref 8), (1, .int v), (2, .int i), (3, .int b)]) (hz_dec kX11_poke 3 rfl) (by decide) rfl ?_
  refine hz_aloadN (pc := 7) 0 (hz_dec kX11_poke 4 rfl) rfl ?_
  refine hz_ifnullN (pc := 9) (tgt := 23) (hz_dec kX11_poke 5 rfl) (by decide) ?_
  refine hz_iconst (pc := 23) (v := (-1)) (hz_dec kX11_poke 11 rfl) (by decide) ?_
  exact hz_iret (pc := 24) (hz_dec kX11_poke 12 rfl) rfl (hcP.no hR _)
set_option maxHeartbeats 4000000 in
set_option maxRecDepth 100000 in
theorem c_rpokeN {κ : hz_C} {z B : Nat} {M : hz_M} {H : ho_H} (hnn : (hoN H).length ≤ 6) (hT4 : (hoT H).length ≤ 4000) (hR : hmR M z B H) {v : Int32} {i b : Int32} (hv : v < 0 ∨ ¬ v < nI (hoN H).length) : hz_Mt κ xX12_poke 1 0 0 [.ref B, .int v, .int i, .int b] z M (hmP M z B (.int (-1)) H) := by
  refine hz_ent (lo := [(0, .ref B), (1, .int v), (2, .int i), (3, .int b)]) (by decide) (Nat.le_of_ble_eq_true rfl) rfl ?_
  obtain ⟨hk0_, hE0, ⟨m1, m2, m3⟩, hNd, a5, a6, a7, a8⟩ := id hR
  obtain ⟨⟨fs, hO, hF⟩, -, -, h8, hz⟩ := id hk0_
  obtain ⟨x1, x3, x4, x5, x6, x7, x8⟩ := id m3
  refine hz_aloadn (pc := 0) 0 (hz_dec kX12_poke 0 rfl) rfl ?_
  refine hz_iconst (pc := 1) (v := nI 0) (hz_dec kX12_poke 1 rfl) (by decide) ?_
  refine hz_puti (pc := 2) (hz_dec kX12_poke 2 rfl) fo_X12_302 ft_X12_0 hO h8 (by omega) (by rw [hF.1]; decide) ?_
  have hf1 : mfr B [0, 89] [] M (va_up M B (.inr (12, (List.set fs 0 (.int (nI 0)))))) := (mfr.rf ⟨fs, hO, hF⟩).upO (k := 0) hO hF rfl rfl
  have hR1 : hmR (va_up M B (.inr (12, (List.set fs 0 (.int (nI 0)))))) z B H := hR.m0 hf1 hE0.upO ((fdB_of (va_up_self _ _ _) 89).trans ((List.getElem?_set_ne (by decide)).trans ((fdB_of hO 89).symm.trans x8)))
  generalize (va_up M B (.inr (12, (List.set fs 0 (.int (nI 0)))))) = M1 at *
  obtain ⟨hk1, hE1, ⟨n1, d1, q1⟩, hNd1, a51, a61, a71, a81⟩ := id hR1
  obtain ⟨⟨fs1, hO1, hF1⟩, -, -, -, -⟩ := id hk1
  refine hz_aloadn (pc := 5) 0 (hz_dec kX12_poke 3 rfl) rfl ?_
  refine hz_iloadn (pc := 6) 1 (hz_dec kX12_poke 4 rfl) rfl ?_
  refine hz_xV (pc := 7) (a := B) (As := [.int v]) (st := []) (hz_dec kX12_poke 5 rfl) co_X12_692 im_X12_stateOf se_X12_stateOf rfl hO1 h8 (by omega) (c_stN hnn hR1 hv) rfl (by decide) ⟨Nat.le_refl _, Nat.le_refl _⟩ (Nat.le_of_ble_eq_true rfl) rfl ?_
  refine hz_iconst (pc := 10) (v := (-1)) (hz_dec kX12_poke 6 rfl) (by decide) ?_
  refine hz_icmp_eq (pc := 11) (tgt := 25) (hz_dec kX12_poke 7 rfl) (by decide) (fun hq1 => ?_) (fun hq1 => ?_)
  · skip
    refine hz_iconst (pc := 25) (v := (-1)) (hz_dec kX12_poke 13 rfl) (by decide) ?_
    exact hz_iret (pc := 26) (hz_dec kX12_poke 14 rfl) rfl ⟨rfl, rfl, hf1.S rfl, hR1⟩
  · skip
    exact absurd hq1 (by decide)
set_option maxHeartbeats 4000000 in
set_option maxRecDepth 100000 in
theorem c_peekI {κ : hz_C} {z : Nat} {M : hz_M} {H : ho_H} (hz : 63 + 34 * (hoN H).length ≤ z) (hnn : (hoN H).length ≤ 6) (hT4 : (hoT H).length ≤ 4000) {ll : Nat} {fr kn : Int32} (hR : hcR M z H ll fr kn) {v : Nat} (hv : v < (hoN H).length) {N : nd_N} (hN : ndL (hoN H) v = N) {i : Int32} (hi : i < 0 ∨ ¬ i < nI 12288) : hz_Mt κ xX11_peek 1 0 0 [.ref 8, .int (nI v), .int i] z M (hcP M z H (.int (-1)) H) := by
  refine hz_ent (lo := [(0, .ref 8), (1, .int (nI v)), (2, .int i)]) (by decide) (Nat.le_of_ble_eq_true rfl) rfl ?_
  have hH := hR.1
  have hNs := hR.2.1
  obtain ⟨hO, hQ, hD⟩ := id hR.2.2.2.2.1
  obtain ⟨g53, h53⟩ := hR.2.2.2.2.2.1
  have hJ := hR.2.2.2.1
  obtain ⟨g56, h56, hT56⟩ := hR.2.2.2.2.2.2.2.2.2.1
  have hdf := hR.2.2.2.2.2.2.2.2.2.2
  have hck : ck_k M z := hJ.2.2.2.2.2.2.2.1
  have hcs : ck_s M := hJ.2.2.2.2.2.2.2.2.1
  have hz63 : 63 ≤ z := by omega
  have hK := hR.2.2.1 v hv
  rw [hN] at hK
  obtain ⟨hn, ⟨gd, hgd, hgD⟩, hT, hC, hP, hL⟩ := id hK
  refine hz_aloadn (pc := 0) 0 (hz_dec kX11_peek 0 rfl) rfl ?_
  refine hz_iloadn (pc := 1) 1 (hz_dec kX11_peek 1 rfl) rfl ?_
  refine hz_xV (pc := 2) (a := 8) (As := [.int (nI v)]) (st := []) (hz_dec kX11_peek 2 rfl) co_X11_162 im_X11_nodeOf se_X11_nodeOf rfl hH (by omega) (by omega) (c_nOf hz63 hH hnn hNs (b := v) hv) rfl (by decide) ⟨Nat.le_refl _, Nat.le_refl _⟩ (Nat.le_of_ble_eq_true rfl) rfl ?_
  refine hz_astoren (pc := 5) (i := 3) (lo2 := [(3, .ref (63 + 34 * v)), (0, .ref 8), (1, .int (nI v)), (2, .int i)]) (hz_dec kX11_peek 3 rfl) rfl (by decide) rfl ?_
  refine hz_aloadn (pc := 6) 0 (hz_dec kX11_peek 4 rfl) rfl ?_
  refine hz_ifnull (pc := 7) (hz_dec kX11_peek 5 rfl) ?_
  refine hz_iloadn (pc := 10) 3 (hz_dec kX11_peek 6 rfl) rfl ?_
  refine hz_if_lt (pc := 11) (tgt := 21) (hz_dec kX11_peek 7 rfl) (by decide) (fun h1 => ?_) (fun h1 => ?_)
  · skip
    refine hz_iconst (pc := 21) (v := (-1)) (hz_dec kX11_peek 11 rfl) (by decide) ?_
    refine hz_goto (pc := 22) (tgt := 35) (hz_dec kX11_peek 12 rfl) (by decide) ?_
    exact hz_iret (pc := 35) (hz_dec kX11_peek 19 rfl) rfl (hcP.no hR _)
  · skip
    refine hz_iloadn (pc := 14) 3 (hz_dec kX11_peek 8 rfl) rfl ?_
    refine hz_sipush (pc := 15) (v := nI 12288) (hz_dec kX11_peek 9 rfl) (by decide) ?_
    refine hz_icmp_lt (pc := 18) (tgt := 25) (hz_dec kX11_peek 10 rfl) (by decide) (fun h2 => ?_) (fun h2 => ?_)
    · skip
      exact absurd h2 (hi.resolve_left h1)
    · skip
      refine hz_iconst (pc := 21) (v := (-1)) (hz_dec kX11_peek 11 rfl) (by decide) ?_
      refine hz_goto (pc := 22) (tgt := 35) (hz_dec kX11_peek 12 rfl) (by decide) ?_
      exact hz_iret (pc := 35) (hz_dec kX11_peek 19 rfl) rfl (hcP.no hR _)
set_option maxHeartbeats 4000000 in
set_option maxRecDepth 100000 in
theorem c_rpeekI {κ : hz_C} {z B : Nat} {M : hz_M} {H : ho_H} (hnn : (hoN H).length ≤ 6) (hT4 : (hoT H).length ≤ 4000) (hR : hmR M z B H) {v : Nat} (hv : v < (hoN H).length) {N : nd_N} (hN : ndL (hoN H) v = N) {i : Int32} (hi : i < 0 ∨ ¬ i < nI 12288) : hz_Mt κ xX12_peek 1 0 0 [.ref B, .int (nI v), .int i] z M (hmP M z B (.int (-1)) H) := by
  refine hz_ent (lo := [(0, .ref B), (1, .int (nI v)), (2, .int i)]) (by decide) (Nat.le_of_ble_eq_true rfl) rfl ?_
  obtain ⟨hk0_, hE0, ⟨m1, m2, m3⟩, hNd, a5, a6, a7, a8⟩ := id hR
  obtain ⟨⟨fs, hO, hF⟩, -, -, h8, hz⟩ := id hk0_
  obtain ⟨x1, x3, x4, x5, x6, x7, x8⟩ := id m3
  refine hz_aloadn (pc := 0) 0 (hz_dec kX12_peek 0 rfl) rfl ?_
  refine hz_iconst (pc := 1) (v := nI 0) (hz_dec kX12_peek 1 rfl) (by decide) ?_
  refine hz_puti (pc := 2) (hz_dec kX12_peek 2 rfl) fo_X12_302 ft_X12_0 hO h8 (by omega) (by rw [hF.1]; decide) ?_
  have hf1 : mfr B [0, 89] [] M (va_up M B (.inr (12, (List.set fs 0 (.int (nI 0)))))) := (mfr.rf ⟨fs, hO, hF⟩).upO (k := 0) hO hF rfl rfl
  have hR1 : hmR (va_up M B (.inr (12, (List.set fs 0 (.int (nI 0)))))) z B H := hR.m0 hf1 hE0.upO ((fdB_of (va_up_self _ _ _) 89).trans ((List.getElem?_set_ne (by decide)).trans ((fdB_of hO 89).symm.trans x8)))
  generalize (va_up M B (.inr (12, (List.set fs 0 (.int (nI 0)))))) = M1 at *
  obtain ⟨hk1, hE1, ⟨n1, d1, q1⟩, hNd1, a51, a61, a71, a81⟩ := id hR1
  obtain ⟨⟨fs1, hO1, hF1⟩, -, -, -, -⟩ := id hk1
  refine hz_aloadn (pc := 5) 0 (hz_dec kX12_peek 3 rfl) rfl ?_
  refine hz_iloadn (pc := 6) 1 (hz_dec kX12_peek 4 rfl) rfl ?_
  refine hz_xV (pc := 7) (a := B) (As := [.int (nI v)]) (st := []) (hz_dec kX12_peek 5 rfl) co_X12_692 im_X12_stateOf se_X12_stateOf rfl hO1 h8 (by omega) (c_st hnn hR1 hv) rfl (by decide) ⟨Nat.le_refl _, Nat.le_refl _⟩ (Nat.le_of_ble_eq_true rfl) rfl ?_
  refine hz_iconst (pc := 10) (v := (-1)) (hz_dec kX12_peek 6 rfl) (by decide) ?_
  refine hz_icmp_eq (pc := 11) (tgt := 25) (hz_dec kX12_peek 7 rfl) (by decide) (fun h0 => ?_) (fun h0 => ?_)
  · skip
    exact absurd h0 (stI_b _)
  · skip
    refine hz_iloadn (pc := 14) 2 (hz_dec kX12_peek 8 rfl) rfl ?_
    refine hz_if_lt (pc := 15) (tgt := 25) (hz_dec kX12_peek 9 rfl) (by decide) (fun h1 => ?_) (fun h1 => ?_)
    · skip
      refine hz_iconst (pc := 25) (v := (-1)) (hz_dec kX12_peek 13 rfl) (by decide) ?_
      refine hz_goto (pc := 26) (tgt := 45) (hz_dec kX12_peek 14 rfl) (by decide) ?_
      exact hz_iret (pc := 45) (hz_dec kX12_peek 25 rfl) rfl ⟨rfl, rfl, hf1.S rfl, hR1⟩
    · skip
      refine hz_iloadn (pc := 18) 2 (hz_dec kX12_peek 10 rfl) rfl ?_
      refine hz_sipush (pc := 19) (v := nI 12288) (hz_dec kX12_peek 11 rfl) (by decide) ?_
      refine hz_icmp_lt (pc := 22) (tgt := 29) (hz_dec kX12_peek 12 rfl) (by decide) (fun h2 => ?_) (fun h2 => ?_)
      · skip
        exact absurd h2 (hi.resolve_left h1)
      · skip
        refine hz_iconst (pc := 25) (v := (-1)) (hz_dec kX12_peek 13 rfl) (by decide) ?_
        refine hz_goto (pc := 26) (tgt := 45) (hz_dec kX12_peek 14 rfl) (by decide) ?_
        exact hz_iret (pc := 45) (hz_dec kX12_peek 25 rfl) rfl ⟨rfl, rfl, hf1.S rfl, hR1⟩
set_option maxHeartbeats 4000000 in
set_option maxRecDepth 100000 in
theorem c_pokeI {κ : hz_C} {z : Nat} {M : hz_M} {H : ho_H} (hz : 63 + 34 * (hoN H).length ≤ z) (hnn : (hoN H).length ≤ 6) (hT4 : (hoT H).length ≤ 4000) {ll : Nat} {fr kn : Int32} (hR : hcR M z H ll fr kn) {v : Nat} (hv : v < (hoN H).length) {N : nd_N} (hN : ndL (hoN H) v = N) {i : Int32} (hi : i < 0 ∨ ¬ i < nI 12288) {b : Int32} : hz_Mt κ xX11_poke 1 0 0 [.ref 8, .int (nI v), .int i, .int b] z M (hcP M z H (.int (-1)) H) := by
  refine hz_ent (lo := [(0, .ref 8), (1, .int (nI v)), (2, .int i), (3, .int b)]) (by decide) (Nat.le_of_ble_eq_true rfl) rfl ?_
  have hH := hR.1
  have hNs := hR.2.1
  obtain ⟨hO, hQ, hD⟩ := id hR.2.2.2.2.1
  obtain ⟨g53, h53⟩ := hR.2.2.2.2.2.1
  have hJ := hR.2.2.2.1
  obtain ⟨g56, h56, hT56⟩ := hR.2.2.2.2.2.2.2.2.2.1
  have hdf := hR.2.2.2.2.2.2.2.2.2.2
  have hck : ck_k M z := hJ.2.2.2.2.2.2.2.1
  have hcs : ck_s M := hJ.2.2.2.2.2.2.2.2.1
  have hz63 : 63 ≤ z := by omega
  have hK := hR.2.2.1 v hv
  rw [hN] at hK
  obtain ⟨hn, ⟨gd, hgd, hgD⟩, hT, hC, hP, hL⟩ := id hK
  refine hz_aloadn (pc := 0) 0 (hz_dec kX11_poke 0 rfl) rfl ?_
  refine hz_iloadn (pc := 1) 1 (hz_dec kX11_poke 1 rfl) rfl ?_
  refine hz_xV (pc := 2) (a := 8) (As := [.int (nI v)]) (st := []) (hz_dec kX11_poke 2 rfl) co_X11_162 im_X11_nodeOf se_X11_nodeOf rfl hH (by omega) (by omega) (c_nOf hz63 hH hnn hNs (b := v) hv) rfl (by decide) ⟨Nat.le_refl _, Nat.le_refl _⟩ (Nat.le_of_ble_eq_true rfl) rfl ?_
  refine hz_astore (pc := 5) (i := 4) (lo2 := [(4, .ref (63 + 34 * v)), (0, .ref 8), (1, .int (nI v)), (2, .int i), (3, .int b)]) (hz_dec kX11_poke 3 rfl) (by decide) rfl ?_
  refine hz_aload (pc := 7) 0 (hz_dec kX11_poke 4 rfl) rfl ?_
  refine hz_ifnull (pc := 9) (hz_dec kX11_poke 5 rfl) ?_
  refine hz_iloadn (pc := 12) 3 (hz_dec kX11_poke 6 rfl) rfl ?_
  refine hz_if_lt (pc := 13) (tgt := 23) (hz_dec kX11_poke 7 rfl) (by decide) (fun h1 => ?_) (fun h1 => ?_)
  · skip
    refine hz_iconst (pc := 23) (v := (-1)) (hz_dec kX11_poke 11 rfl) (by decide) ?_
    exact hz_iret (pc := 24) (hz_dec kX11_poke 12 rfl) rfl (hcP.no hR _)
  · skip
    refine hz_iloadn (pc := 16) 3 (hz_dec kX11_poke 8 rfl) rfl ?_
    refine hz_sipush (pc := 17) (v := nI 12288) (hz_dec kX11_poke 9 rfl) (by decide) ?_
    refine hz_icmp_lt (pc := 20) (tgt := 25) (hz_dec kX11_poke 10 rfl) (by decide) (fun h2 => ?_) (fun h2 => ?_)
    · skip
      exact absurd h2 (hi.resolve_left h1)
    · skip
      refine hz_iconst (pc := 23) (v := (-1)) (hz_dec kX11_poke 11 rfl) (by decide) ?_
      exact hz_iret (pc := 24) (hz_dec kX11_poke 12 rfl) rfl (hcP.no hR _)
set_option maxHeartbeats 4000000 in
set_option maxRecDepth 100000 in
theorem c_rpokeI {κ : hz_C} {z B : Nat} {M : hz_M} {H : ho_H} (hnn : (hoN H).length ≤ 6) (hT4 : (hoT H).length ≤ 4000) (hR : hmR M z B H) {v : Nat} (hv : v < (hoN H).length) {N : nd_N} (hN : ndL (hoN H) v = N) {i : Int32} (hi : i < 0 ∨ ¬ i < nI 12288) {b : Int32} : hz_Mt κ xX12_poke 1 0 0 [.ref B, .int (nI v), .int i, .int b] z M (hmP M z B (.int (-1)) H) := by
  refine hz_ent (lo := [(0, .ref B), (1, .int (nI v)), (2, .int i), (3, .int b)]) (by decide) (Nat.le_of_ble_eq_true rfl) rfl ?_
  obtain ⟨hk0_, hE0, ⟨m1, m2, m3⟩, hNd, a5, a6, a7, a8⟩ := id hR
  obtain ⟨⟨fs, hO, hF⟩, -, -, h8, hz⟩ := id hk0_
  obtain ⟨x1, x3, x4, x5, x6, x7, x8⟩ := id m3
  refine hz_aloadn (pc := 0) 0 (hz_dec kX12_poke 0 rfl) rfl ?_
  refine hz_iconst (pc := 1) (v := nI 0) (hz_dec kX12_poke 1 rfl) (by decide) ?_
  refine hz_puti (pc := 2) (hz_dec kX12_poke 2 rfl) fo_X12_302 ft_X12_0 hO h8 (by omega) (by rw [hF.1]; decide) ?_
  have hf1 : mfr B [0, 89] [] M (va_up M B (.inr (12, (List.set fs 0 (.int (nI 0)))))) := (mfr.rf ⟨fs, hO, hF⟩).upO (k := 0) hO hF rfl rfl
  have hR1 : hmR (va_up M B (.inr (12, (List.set fs 0 (.int (nI 0)))))) z B H := hR.m0 hf1 hE0.upO ((fdB_of (va_up_self _ _ _) 89).trans ((List.getElem?_set_ne (by decide)).trans ((fdB_of hO 89).symm.trans x8)))
  generalize (va_up M B (.inr (12, (List.set fs 0 (.int (nI 0)))))) = M1 at *
  obtain ⟨hk1, hE1, ⟨n1, d1, q1⟩, hNd1, a51, a61, a71, a81⟩ := id hR1
  obtain ⟨⟨fs1, hO1, hF1⟩, -, -, -, -⟩ := id hk1
  refine hz_aloadn (pc := 5) 0 (hz_dec kX12_poke 3 rfl) rfl ?_
  refine hz_iloadn (pc := 6) 1 (hz_dec kX12_poke 4 rfl) rfl ?_
  refine hz_xV (pc := 7) (a := B) (As := [.int (nI v)]) (st := []) (hz_dec kX12_poke 5 rfl) co_X12_692 im_X12_stateOf se_X12_stateOf rfl hO1 h8 (by omega) (c_st hnn hR1 hv) rfl (by decide) ⟨Nat.le_refl _, Nat.le_refl _⟩ (Nat.le_of_ble_eq_true rfl) rfl ?_
  refine hz_iconst (pc := 10) (v := (-1)) (hz_dec kX12_poke 6 rfl) (by decide) ?_
  refine hz_icmp_eq (pc := 11) (tgt := 25) (hz_dec kX12_poke 7 rfl) (by decide) (fun h0 => ?_) (fun h0 => ?_)
  · skip
    exact absurd h0 (stI_b _)
  · skip
    refine hz_iloadn (pc := 14) 2 (hz_dec kX12_poke 8 rfl) rfl ?_
    refine hz_if_lt (pc := 15) (tgt := 25) (hz_dec kX12_poke 9 rfl) (by decide) (fun h1 => ?_) (fun h1 => ?_)
    · skip
      refine hz_iconst (pc := 25) (v := (-1)) (hz_dec kX12_poke 13 rfl) (by decide) ?_
      exact hz_iret (pc := 26) (hz_dec kX12_poke 14 rfl) rfl ⟨rfl, rfl, hf1.S rfl, hR1⟩
    · skip
      refine hz_iloadn (pc := 18) 2 (hz_dec kX12_poke 10 rfl) rfl ?_
      refine hz_sipush (pc := 19) (v := nI 12288) (hz_dec kX12_poke 11 rfl) (by decide) ?_
      refine hz_icmp_lt (pc := 22) (tgt := 27) (hz_dec kX12_poke 12 rfl) (by decide) (fun h2 => ?_) (fun h2 => ?_)
      · skip
        exact absurd h2 (hi.resolve_left h1)
      · skip
        refine hz_iconst (pc := 25) (v := (-1)) (hz_dec kX12_poke 13 rfl) (by decide) ?_
        exact hz_iret (pc := 26) (hz_dec kX12_poke 14 rfl) rfl ⟨rfl, rfl, hf1.S rfl, hR1⟩
set_option maxHeartbeats 4000000 in
set_option maxRecDepth 100000 in
theorem c_peek {κ : hz_C} {z : Nat} {M : hz_M} {H : ho_H} (hz : 63 + 34 * (hoN H).length ≤ z) (hnn : (hoN H).length ≤ 6) (hT4 : (hoT H).length ≤ 4000) {ll : Nat} {fr kn : Int32} (hR : hcR M z H ll fr kn) {v : Nat} (hv : v < (hoN H).length) {N : nd_N} (hN : ndL (hoN H) v = N) {i : Nat} (hi : i < 12288) : hz_Mt κ xX11_peek 1 0 0 [.ref 8, .int (nI v), .int (nI i)] z M (hcP M z H (.int (nI (bb (ksD N.1 i)))) H) := by
  refine hz_ent (lo := [(0, .ref 8), (1, .int (nI v)), (2, .int (nI i))]) (by decide) (Nat.le_of_ble_eq_true rfl) rfl ?_
  have hH := hR.1
  have hNs := hR.2.1
  obtain ⟨hO, hQ, hD⟩ := id hR.2.2.2.2.1
  obtain ⟨g53, h53⟩ := hR.2.2.2.2.2.1
  have hJ := hR.2.2.2.1
  obtain ⟨g56, h56, hT56⟩ := hR.2.2.2.2.2.2.2.2.2.1
  have hdf := hR.2.2.2.2.2.2.2.2.2.2
  have hck : ck_k M z := hJ.2.2.2.2.2.2.2.1
  have hcs : ck_s M := hJ.2.2.2.2.2.2.2.2.1
  have hz63 : 63 ≤ z := by omega
  have hK := hR.2.2.1 v hv
  rw [hN] at hK
  obtain ⟨hn, ⟨gd, hgd, hgD⟩, hT, hC, hP, hL⟩ := id hK
  refine hz_aloadn (pc := 0) 0 (hz_dec kX11_peek 0 rfl) rfl ?_
  refine hz_iloadn (pc := 1) 1 (hz_dec kX11_peek 1 rfl) rfl ?_
  refine hz_xV (pc := 2) (a := 8) (As := [.int (nI v)]) (st := []) (hz_dec kX11_peek 2 rfl) co_X11_162 im_X11_nodeOf se_X11_nodeOf rfl hH (by omega) (by omega) (c_nOf hz63 hH hnn hNs (b := v) hv) rfl (by decide) ⟨Nat.le_refl _, Nat.le_refl _⟩ (Nat.le_of_ble_eq_true rfl) rfl ?_
  refine hz_astoren (pc := 5) (i := 3) (lo2 := [(3, .ref (63 + 34 * v)), (0, .ref 8), (1, .int (nI v)), (2, .int (nI i))]) (hz_dec kX11_peek 3 rfl) rfl (by decide) rfl ?_
  refine hz_aloadn (pc := 6) 0 (hz_dec kX11_peek 4 rfl) rfl ?_
  refine hz_ifnull (pc := 7) (hz_dec kX11_peek 5 rfl) ?_
  refine hz_iloadn (pc := 10) 3 (hz_dec kX11_peek 6 rfl) rfl ?_
  refine hz_z_lt (pc := 11) (tgt := 21) (hz_dec kX11_peek 7 rfl) (by decide) (by omega) ?_
  refine hz_iloadn (pc := 14) 3 (hz_dec kX11_peek 8 rfl) rfl ?_
  refine hz_sipush (pc := 15) (v := nI 12288) (hz_dec kX11_peek 9 rfl) (by decide) ?_
  refine hz_n_lt (pc := 18) (tgt := 25) (hz_dec kX11_peek 10 rfl) (by decide) (by omega) (by omega) (fun h2 => ?_) (fun h2 => ?_)
  · skip
    refine hz_aloadn (pc := 25) 0 (hz_dec kX11_peek 13 rfl) rfl ?_
    refine hz_get (pc := 26) (hz_dec kX11_peek 14 rfl) fo_X11_377 hn (by omega) (by omega) rfl ?_
    refine hz_iloadn (pc := 29) 3 (hz_dec kX11_peek 15 rfl) rfl ?_
    refine hz_bald (pc := 30) (j := i) (hz_dec kX11_peek 16 rfl) hgd (by omega) (by omega) rfl (by omega) (by decide) ?_
    refine hz_eqi (pc := 31) (hgD i hi) ?_
    refine hz_sipush (pc := 31) (v := nI 255) (hz_dec kX11_peek 17 rfl) (by decide) ?_
    refine hz_andB (pc := 34) (hz_dec kX11_peek 18 rfl) ?_
    exact hz_iret (pc := 35) (hz_dec kX11_peek 19 rfl) rfl (hcP.no hR _)
  · skip
    exact absurd hi (by omega)
set_option maxHeartbeats 4000000 in
set_option maxRecDepth 100000 in
theorem c_rpeek {κ : hz_C} {z B : Nat} {M : hz_M} {H : ho_H} (hnn : (hoN H).length ≤ 6) (hT4 : (hoT H).length ≤ 4000) (hR : hmR M z B H) {v : Nat} (hv : v < (hoN H).length) {N : nd_N} (hN : ndL (hoN H) v = N) {i : Nat} (hi : i < 12288) : hz_Mt κ xX12_peek 1 0 0 [.ref B, .int (nI v), .int (nI i)] z M (hmP M z B (.int (nI (bb (ksD N.1 i)))) H) := by
  refine hz_ent (lo := [(0, .ref B), (1, .int (nI v)), (2, .int (nI i))]) (by decide) (Nat.le_of_ble_eq_true rfl) rfl ?_
  obtain ⟨hk0_, hE0, ⟨m1, m2, m3⟩, hNd, a5, a6, a7, a8⟩ := id hR
  obtain ⟨⟨fs, hO, hF⟩, -, -, h8, hz⟩ := id hk0_
  obtain ⟨x1, x3, x4, x5, x6, x7, x8⟩ := id m3
  refine hz_aloadn (pc := 0) 0 (hz_dec kX12_peek 0 rfl) rfl ?_
  refine hz_iconst (pc := 1) (v := nI 0) (hz_dec kX12_peek 1 rfl) (by decide) ?_
  refine hz_puti (pc := 2) (hz_dec kX12_peek 2 rfl) fo_X12_302 ft_X12_0 hO h8 (by omega) (by rw [hF.1]; decide) ?_
  have hf1 : mfr B [0, 89] [] M (va_up M B (.inr (12, (List.set fs 0 (.int (nI 0)))))) := (mfr.rf ⟨fs, hO, hF⟩).upO (k := 0) hO hF rfl rfl
  have hR1 : hmR (va_up M B (.inr (12, (List.set fs 0 (.int (nI 0)))))) z B H := hR.m0 hf1 hE0.upO ((fdB_of (va_up_self _ _ _) 89).trans ((List.getElem?_set_ne (by decide)).trans ((fdB_of hO 89).symm.trans x8)))
  generalize (va_up M B (.inr (12, (List.set fs 0 (.int (nI 0)))))) = M1 at *
  obtain ⟨hk1, hE1, ⟨n1, d1, q1⟩, hNd1, a51, a61, a71, a81⟩ := id hR1
  obtain ⟨⟨fs1, hO1, hF1⟩, -, -, -, -⟩ := id hk1
  have hv6 : v < 6 := by omega
  have h0 : mdN M1 B v N := by have q := hNd1 v hv; rw [hN] at q; exact q
  have e17 : fA M1 B 17 (12288 * v + i) = ksD N.1 i := h0.1.2.1 i hi
  refine hz_aloadn (pc := 5) 0 (hz_dec kX12_peek 3 rfl) rfl ?_
  refine hz_iloadn (pc := 6) 1 (hz_dec kX12_peek 4 rfl) rfl ?_
  refine hz_xV (pc := 7) (a := B) (As := [.int (nI v)]) (st := []) (hz_dec kX12_peek 5 rfl) co_X12_692 im_X12_stateOf se_X12_stateOf rfl hO1 h8 (by omega) (c_st hnn hR1 hv) rfl (by decide) ⟨Nat.le_refl _, Nat.le_refl _⟩ (Nat.le_of_ble_eq_true rfl) rfl ?_
  refine hz_iconst (pc := 10) (v := (-1)) (hz_dec kX12_peek 6 rfl) (by decide) ?_
  refine hz_icmp_eq (pc := 11) (tgt := 25) (hz_dec kX12_peek 7 rfl) (by decide) (fun hs0 => ?_) (fun hs0 => ?_)
  · skip
    exact absurd hs0 (stI_b _)
  · skip
    refine hz_iloadn (pc := 14) 2 (hz_dec kX12_peek 8 rfl) rfl ?_
    refine hz_z_lt (pc := 15) (tgt := 25) (hz_dec kX12_peek 9 rfl) (by decide) (by omega) ?_
    refine hz_iloadn (pc := 18) 2 (hz_dec kX12_peek 10 rfl) rfl ?_
    refine hz_sipush (pc := 19) (v := nI 12288) (hz_dec kX12_peek 11 rfl) (by decide) ?_
    refine hz_n_lt (pc := 22) (tgt := 29) (hz_dec kX12_peek 12 rfl) (by decide) (by omega) (by omega) (fun h2 => ?_) (fun h2 => ?_)
    · skip
      refine hz_aloadn (pc := 29) 0 (hz_dec kX12_peek 15 rfl) rfl ?_
      refine hz_get (pc := 30) (v := .ref (B + 17)) (hz_dec kX12_peek 16 rfl) fo_X12_62 hO1 h8 (by omega) (hF1.2 19 (by decide) (by decide)) ?_
      refine hz_sipush (pc := 33) (v := nI 12288) (hz_dec kX12_peek 17 rfl) (by decide) ?_
      refine hz_iloadn (pc := 36) 1 (hz_dec kX12_peek 18 rfl) rfl ?_
      refine hz_mulN (pc := 37) (hz_dec kX12_peek 19 rfl) ?_
      refine hz_iloadn (pc := 38) 2 (hz_dec kX12_peek 20 rfl) rfl ?_
      refine hz_addN (pc := 39) (hz_dec kX12_peek 21 rfl) ?_
      refine hz_bald (pc := 40) (j := (12288 * v) + i) (hz_dec kX12_peek 22 rfl) hE1.a17 (by omega) (by omega) rfl (by omega) (by decide) ?_
      refine hz_eqi (pc := 41) e17 ?_
      refine hz_sipush (pc := 41) (v := nI 255) (hz_dec kX12_peek 23 rfl) (by decide) ?_
      refine hz_andB (pc := 44) (hz_dec kX12_peek 24 rfl) ?_
      exact hz_iret (pc := 45) (hz_dec kX12_peek 25 rfl) rfl ⟨rfl, rfl, hf1.S rfl, hR1⟩
    · skip
      exact absurd hi (by omega)
set_option maxHeartbeats 4000000 in
set_option maxRecDepth 100000 in
theorem c_poke {κ : hz_C} {z : Nat} {M : hz_M} {H : ho_H} (hz : 63 + 34 * (hoN H).length ≤ z) (hnn : (hoN H).length ≤ 6) (hT4 : (hoT H).length ≤ 4000) {ll : Nat} {fr kn : Int32} (hR : hcR M z H ll fr kn) {v : Nat} (hv : v < (hoN H).length) {N : nd_N} (hN : ndL (hoN H) v = N) {i : Nat} (hi : i < 12288) {b : Int32} : hz_Mt κ xX11_poke 1 0 0 [.ref 8, .int (nI v), .int (nI i), .int b] z M (hcP M z H (.int (nI (bb (ksD N.1 i)))) (hoS H v (ndd N (upd (ksD N.1) i (b.toInt8.toInt32.toInt8.toInt32))) (hoQ H))) := by
  refine hz_ent (lo := [(0, .ref 8), (1, .int (nI v)), (2, .int (nI i)), (3, .int b)]) (by decide) (Nat.le_of_ble_eq_true rfl) rfl ?_
  have hH := hR.1
  have hNs := hR.2.1
  obtain ⟨hO, hQ, hD⟩ := id hR.2.2.2.2.1
  obtain ⟨g53, h53⟩ := hR.2.2.2.2.2.1
  have hJ := hR.2.2.2.1
  obtain ⟨g56, h56, hT56⟩ := hR.2.2.2.2.2.2.2.2.2.1
  have hdf := hR.2.2.2.2.2.2.2.2.2.2
  have hck : ck_k M z := hJ.2.2.2.2.2.2.2.1
  have hcs : ck_s M := hJ.2.2.2.2.2.2.2.2.1
  have hz63 : 63 ≤ z := by omega
  have hK := hR.2.2.1 v hv
  rw [hN] at hK
  obtain ⟨hn, ⟨gd, hgd, hgD⟩, hT, hC, hP, hL⟩ := id hK
  refine hz_aloadn (pc := 0) 0 (hz_dec kX11_poke 0 rfl) rfl ?_
  refine hz_iloadn (pc := 1) 1 (hz_dec kX11_poke 1 rfl) rfl ?_
  refine hz_xV (pc := 2) (a := 8) (As := [.int (nI v)]) (st := []) (hz_dec kX11_poke 2 rfl) co_X11_162 im_X11_nodeOf se_X11_nodeOf rfl hH (by omega) (by omega) (c_nOf hz63 hH hnn hNs (b := v) hv) rfl (by decide) ⟨Nat.le_refl _, Nat.le_refl _⟩ (Nat.le_of_ble_eq_true rfl) rfl ?_
  refine hz_astore (pc := 5) (i := 4) (lo2 := [(4, .ref (63 + 34 * v)), (0, .ref 8), (1, .int (nI v)), (2, .int (nI i)), (3, .int b)]) (hz_dec kX11_poke 3 rfl) (by decide) rfl ?_
  refine hz_aload (pc := 7) 0 (hz_dec kX11_poke 4 rfl) rfl ?_
  refine hz_ifnull (pc := 9) (hz_dec kX11_poke 5 rfl) ?_
  refine hz_iloadn (pc := 12) 3 (hz_dec kX11_poke 6 rfl) rfl ?_
  refine hz_z_lt (pc := 13) (tgt := 23) (hz_dec kX11_poke 7 rfl) (by decide) (by omega) ?_
  refine hz_iloadn (pc := 16) 3 (hz_dec kX11_poke 8 rfl) rfl ?_
  refine hz_sipush (pc := 17) (v := nI 12288) (hz_dec kX11_poke 9 rfl) (by decide) ?_
  refine hz_n_lt (pc := 20) (tgt := 25) (hz_dec kX11_poke 10 rfl) (by decide) (by omega) (by omega) (fun h2 => ?_) (fun h2 => ?_)
  · skip
    refine hz_aload (pc := 25) 0 (hz_dec kX11_poke 13 rfl) rfl ?_
    refine hz_get (pc := 27) (hz_dec kX11_poke 14 rfl) fo_X11_377 hn (by omega) (by omega) rfl ?_
    refine hz_iloadn (pc := 30) 3 (hz_dec kX11_poke 15 rfl) rfl ?_
    refine hz_bald (pc := 31) (j := i) (hz_dec kX11_poke 16 rfl) hgd (by omega) (by omega) rfl (by omega) (by decide) ?_
    refine hz_eqi (pc := 32) (hgD i hi) ?_
    refine hz_sipush (pc := 32) (v := nI 255) (hz_dec kX11_poke 17 rfl) (by decide) ?_
    refine hz_andB (pc := 35) (hz_dec kX11_poke 18 rfl) ?_
    refine hz_istore (pc := 36) (i := 5) (lo2 := [(5, .int (nI (bb (ksD N.1 i)))), (4, .ref (63 + 34 * v)), (0, .ref 8), (1, .int (nI v)), (2, .int (nI i)), (3, .int b)]) (hz_dec kX11_poke 19 rfl) (by decide) rfl ?_
    refine hz_aload (pc := 38) 1 (hz_dec kX11_poke 20 rfl) rfl ?_
    refine hz_get (pc := 40) (hz_dec kX11_poke 21 rfl) fo_X11_377 hn (by omega) (by omega) rfl ?_
    refine hz_iloadn (pc := 43) 4 (hz_dec kX11_poke 22 rfl) rfl ?_
    refine hz_iloadn (pc := 44) 5 (hz_dec kX11_poke 23 rfl) rfl ?_
    refine hz_i2b (pc := 45) (hz_dec kX11_poke 24 rfl) ?_
    refine hz_bast (pc := 46) (j := i) (hz_dec kX11_poke 25 rfl) hgd (by omega) (by omega) rfl (by omega) (by decide) ?_
    refine hz_iload (pc := 47) 0 (hz_dec kX11_poke 26 rfl) rfl ?_
    have hf : frS [(63 + 34 * v, 63 + 34 * v + 34)] M (va_up M (63 + 34 * v + 1) (.inl (1, 12288, .inl (upd gd i (((b).toInt8.toInt32).toInt8.toInt32))))) := ((frS.rf (S := [(63 + 34 * v, 63 + 34 * v + 34)])).upr (a := 63 + 34 * v + 1) (by simp only [outS, and_true]; omega))
    have hR2 : hcR (va_up M (63 + 34 * v + 1) (.inl (1, 12288, .inl (upd gd i (((b).toInt8.toInt32).toInt8.toInt32))))) z (hoS H v (ndd N (upd (ksD N.1) i (b.toInt8.toInt32.toInt8.toInt32))) (hoQ H)) ll fr kn := hR.n hv hf (hK.d (D := upd (ksD N.1) i (b.toInt8.toInt32.toInt8.toInt32)) (upd_cg0 hgD))
    exact hz_iret (pc := 49) (hz_dec kX11_poke 27 rfl) rfl ⟨rfl, rfl, (hf.mono (fun q (h9 : outS [(8, 63 + 34 * (hoN H).length)] q) => ⟨by have r := h9.1; omega, trivial⟩)), ll, fr, kn, hR2⟩
  · skip
    exact absurd hi (by omega)
set_option maxHeartbeats 4000000 in
set_option maxRecDepth 100000 in
theorem c_rpoke {κ : hz_C} {z B : Nat} {M : hz_M} {H : ho_H} (hnn : (hoN H).length ≤ 6) (hT4 : (hoT H).length ≤ 4000) (hR : hmR M z B H) {v : Nat} (hv : v < (hoN H).length) {N : nd_N} (hN : ndL (hoN H) v = N) {i : Nat} (hi : i < 12288) {b : Int32} (hX : hoX H) : hz_Mt κ xX12_poke 1 0 0 [.ref B, .int (nI v), .int (nI i), .int b] z M (hmP M z B (.int (nI (bb (ksD N.1 i)))) (hoS H v (ndd N (upd (ksD N.1) i (b.toInt8.toInt32.toInt8.toInt32))) (hoQ H))) := by
  refine hz_ent (lo := [(0, .ref B), (1, .int (nI v)), (2, .int (nI i)), (3, .int b)]) (by decide) (Nat.le_of_ble_eq_true rfl) rfl ?_
  obtain ⟨hk0_, hE0, ⟨m1, m2, m3⟩, hNd, a5, a6, a7, a8⟩ := id hR
  obtain ⟨⟨fs, hO, hF⟩, -, -, h8, hz⟩ := id hk0_
  obtain ⟨x1, x3, x4, x5, x6, x7, x8⟩ := id m3
  refine hz_aloadn (pc := 0) 0 (hz_dec kX12_poke 0 rfl) rfl ?_
  refine hz_iconst (pc := 1) (v := nI 0) (hz_dec kX12_poke 1 rfl) (by decide) ?_
  refine hz_puti (pc := 2) (hz_dec kX12_poke 2 rfl) fo_X12_302 ft_X12_0 hO h8 (by omega) (by rw [hF.1]; decide) ?_
  have hf1 : mfr B [0, 89] [] M (va_up M B (.inr (12, (List.set fs 0 (.int (nI 0)))))) := (mfr.rf ⟨fs, hO, hF⟩).upO (k := 0) hO hF rfl rfl
  have hR1 : hmR (va_up M B (.inr (12, (List.set fs 0 (.int (nI 0)))))) z B H := hR.m0 hf1 hE0.upO ((fdB_of (va_up_self _ _ _) 89).trans ((List.getElem?_set_ne (by decide)).trans ((fdB_of hO 89).symm.trans x8)))
  generalize (va_up M B (.inr (12, (List.set fs 0 (.int (nI 0)))))) = M1 at *
  obtain ⟨hk1, hE1, ⟨n1, d1, q1⟩, hNd1, a51, a61, a71, a81⟩ := id hR1
  obtain ⟨⟨fs1, hO1, hF1⟩, -, -, -, -⟩ := id hk1
  have hv6 : v < 6 := by omega
  have h0 : mdN M1 B v N := by have q := hNd1 v hv; rw [hN] at q; exact q
  have e17 : fA M1 B 17 (12288 * v + i) = ksD N.1 i := h0.1.2.1 i hi
  refine hz_aloadn (pc := 5) 0 (hz_dec kX12_poke 3 rfl) rfl ?_
  refine hz_iloadn (pc := 6) 1 (hz_dec kX12_poke 4 rfl) rfl ?_
  refine hz_xV (pc := 7) (a := B) (As := [.int (nI v)]) (st := []) (hz_dec kX12_poke 5 rfl) co_X12_692 im_X12_stateOf se_X12_stateOf rfl hO1 h8 (by omega) (c_st hnn hR1 hv) rfl (by decide) ⟨Nat.le_refl _, Nat.le_refl _⟩ (Nat.le_of_ble_eq_true rfl) rfl ?_
  refine hz_iconst (pc := 10) (v := (-1)) (hz_dec kX12_poke 6 rfl) (by decide) ?_
  refine hz_icmp_eq (pc := 11) (tgt := 25) (hz_dec kX12_poke 7 rfl) (by decide) (fun hs0 => ?_) (fun hs0 => ?_)
  · skip
    exact absurd hs0 (stI_b _)
  · skip
    refine hz_iloadn (pc := 14) 2 (hz_dec kX12_poke 8 rfl) rfl ?_
    refine hz_z_lt (pc := 15) (tgt := 25) (hz_dec kX12_poke 9 rfl) (by decide) (by omega) ?_
    refine hz_iloadn (pc := 18) 2 (hz_dec kX12_poke 10 rfl) rfl ?_
    refine hz_sipush (pc := 19) (v := nI 12288) (hz_dec kX12_poke 11 rfl) (by decide) ?_
    refine hz_n_lt (pc := 22) (tgt := 27) (hz_dec kX12_poke 12 rfl) (by decide) (by omega) (by omega) (fun h2 => ?_) (fun h2 => ?_)
    · skip
      refine hz_aloadn (pc := 27) 0 (hz_dec kX12_poke 15 rfl) rfl ?_
      refine hz_get (pc := 28) (v := .ref (B + 17)) (hz_dec kX12_poke 16 rfl) fo_X12_62 hO1 h8 (by omega) (hF1.2 19 (by decide) (by decide)) ?_
      refine hz_sipush (pc := 31) (v := nI 12288) (hz_dec kX12_poke 17 rfl) (by decide) ?_
      refine hz_iloadn (pc := 34) 1 (hz_dec kX12_poke 18 rfl) rfl ?_
      refine hz_mulN (pc := 35) (hz_dec kX12_poke 19 rfl) ?_
      refine hz_iloadn (pc := 36) 2 (hz_dec kX12_poke 20 rfl) rfl ?_
      refine hz_addN (pc := 37) (hz_dec kX12_poke 21 rfl) ?_
      refine hz_bald (pc := 38) (j := (12288 * v) + i) (hz_dec kX12_poke 22 rfl) hE1.a17 (by omega) (by omega) rfl (by omega) (by decide) ?_
      refine hz_eqi (pc := 39) e17 ?_
      refine hz_sipush (pc := 39) (v := nI 255) (hz_dec kX12_poke 23 rfl) (by decide) ?_
      refine hz_andB (pc := 42) (hz_dec kX12_poke 24 rfl) ?_
      refine hz_istore (pc := 43) (i := 4) (lo2 := [(4, .int (nI (bb (ksD N.1 i)))), (0, .ref B), (1, .int (nI v)), (2, .int (nI i)), (3, .int b)]) (hz_dec kX12_poke 25 rfl) (by decide) rfl ?_
      refine hz_aloadn (pc := 45) 1 (hz_dec kX12_poke 26 rfl) rfl ?_
      refine hz_get (pc := 46) (v := .ref (B + 17)) (hz_dec kX12_poke 27 rfl) fo_X12_62 hO1 h8 (by omega) (hF1.2 19 (by decide) (by decide)) ?_
      refine hz_sipush (pc := 49) (v := nI 12288) (hz_dec kX12_poke 28 rfl) (by decide) ?_
      refine hz_iloadn (pc := 52) 2 (hz_dec kX12_poke 29 rfl) rfl ?_
      refine hz_mulN (pc := 53) (hz_dec kX12_poke 30 rfl) ?_
      refine hz_iloadn (pc := 54) 3 (hz_dec kX12_poke 31 rfl) rfl ?_
      refine hz_addN (pc := 55) (hz_dec kX12_poke 32 rfl) ?_
      refine hz_iloadn (pc := 56) 4 (hz_dec kX12_poke 33 rfl) rfl ?_
      refine hz_i2b (pc := 57) (hz_dec kX12_poke 34 rfl) ?_
      refine hz_bast (pc := 58) (j := (12288 * v) + i) (hz_dec kX12_poke 35 rfl) hE1.a17 (by omega) (by omega) rfl (by omega) (by decide) ?_
      refine hz_iload (pc := 59) 0 (hz_dec kX12_poke 36 rfl) rfl ?_
      have hf2 : mfr B [] [17] M1 (va_up M1 (B + 17) (.inl (1, 73728, .inl (upd (fA M1 B 17) ((12288 * v) + i) (((b).toInt8.toInt32).toInt8.toInt32))))) := ((mfr.rf (ks := []) (os := [17]) hk1.1).upA (o := 17) rfl (by decide))
      have hE2 : mdE (va_up M1 (B + 17) (.inl (1, 73728, .inl (upd (fA M1 B 17) ((12288 * v) + i) (((b).toInt8.toInt32).toInt8.toInt32))))) B := (hE1.upA (k := 17) (t := 1) (n := 73728) (by decide))
      have hag : agV M1 (va_up M1 (B + 17) (.inl (1, 73728, .inl (upd (fA M1 B 17) ((12288 * v) + i) (((b).toInt8.toInt32).toInt8.toInt32))))) B v := (agV.rf (v := v)).upA (o := 17) (s := 12288) (by decide) (by decide) (fun x hx => upd_o (by omega))
      have hcw : cvW M1 (va_up M1 (B + 17) (.inl (1, 73728, .inl (upd (fA M1 B 17) ((12288 * v) + i) (((b).toInt8.toInt32).toInt8.toInt32))))) B v := (cvK.mf hf2 rfl rfl rfl rfl (bl := []) (en := [])).w
      have h17 : ∀ j, j < 12288 → fA (va_up M1 (B + 17) (.inl (1, 73728, .inl (upd (fA M1 B 17) ((12288 * v) + i) (((b).toInt8.toInt32).toInt8.toInt32))))) B 17 (12288 * v + j) = upd (ksD N.1) i (b.toInt8.toInt32.toInt8.toInt32) j := by rw [fA_of (va_up_self _ _ _)]; exact upd_cg h0.1.2.1
      have hNn : mdN (va_up M1 (B + 17) (.inl (1, 73728, .inl (upd (fA M1 B 17) ((12288 * v) + i) (((b).toInt8.toInt32).toInt8.toInt32))))) B v (ndd N (upd (ksD N.1) i (b.toInt8.toInt32.toInt8.toInt32))) := ⟨h0.1.f17 hf2 h17, h0.2.1.mf hf2 rfl, by rw [fA_m hf2 (by decide) rfl]; exact h0.2.2.1, by rw [fA_m hf2 (by decide) rfl]; exact h0.2.2.2⟩
      have hR2 : hmR (va_up M1 (B + 17) (.inl (1, 73728, .inl (upd (fA M1 B 17) ((12288 * v) + i) (((b).toInt8.toInt32).toInt8.toInt32))))) z B (hoS H v (ndd N (upd (ksD N.1) i (b.toInt8.toInt32.toInt8.toInt32))) (hoQ H)) := hR1.put hnn hv hX.1 hf2 rfl rfl rfl rfl rfl rfl rfl rfl rfl rfl rfl rfl rfl hE2 hag hcw (q := hoQ H) (hR1.2.2.1.mf hf2 rfl rfl) hNn
      exact hz_iret (pc := 61) (hz_dec kX12_poke 37 rfl) rfl ⟨rfl, rfl, (hf1.S rfl).tr (hf2.S rfl), hR2⟩
    · skip
      exact absurd hi (by omega)
