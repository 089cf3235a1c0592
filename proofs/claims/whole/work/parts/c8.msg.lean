/-! message, messageByte, alter -/
set_option maxHeartbeats 4000000 in
set_option maxRecDepth 100000 in
theorem c_msg0 {κ : hz_C} {z : Nat} {M : hz_M} {H : ho_H} (hz : 63 + 34 * (hoN H).length ≤ z) (hnn : (hoN H).length ≤ 6) (hT4 : (hoT H).length ≤ 4000) {ll : Nat} {fr kn : Int32} (hR : hcR M z H ll fr kn) {k : Nat} (hk : k < (hoQ H).1.length) : hz_Mt κ xX11_message 1 0 0 [.ref 8, .int (nI k), .int (nI 0)] z M (hcP M z H (.int ((msL (hoQ H).1 k).1)) H) := by
  refine hz_ent (lo := [(0, .ref 8), (1, .int (nI k)), (2, .int (nI 0))]) (by decide) (Nat.le_of_ble_eq_true rfl) rfl ?_
  have hH := hR.1
  have hNs := hR.2.1
  obtain ⟨hO, hQ, hD⟩ := id hR.2.2.2.2.1
  obtain ⟨g53, h53⟩ := hR.2.2.2.2.2.1
  have hJ := hR.2.2.2.1
  obtain ⟨g56, h56, hT56⟩ := hR.2.2.2.2.2.2.2.2.2.1
  have hdf := hR.2.2.2.2.2.2.2.2.2.2
  have hck : ck_k M z := hJ.2.2.2.2.2.2.2.1
  have hcs : ck_s M := hJ.2.2.2.2.2.2.2.2.1
  have hz63 : 63 ≤ z := by omega
  obtain ⟨f1, f2, f3, f4, k1, k2, k3, k4, hX4⟩ := id hQ.2
  have hrw := hQ.1.1
  rw [msB_len] at hrw
  obtain ⟨fB, gB, hfB, hgB, hxB⟩ := hQ.1.2.2.2
  have hql : (hoQ H).1.length ≤ 200 := by have q := hQ.1.2.1; rw [msB_len] at q; exact q
  have hqo : msO (hoQ H).1 (hoQ H).1.length ≤ 40000 := by have q := hQ.1.2.2.1; rw [msB_len] at q; exact q
  refine hz_iloadn (pc := 0) 1 (hz_dec kX11_message 0 rfl) rfl ?_
  refine hz_z_lt (pc := 1) (tgt := 18) (hz_dec kX11_message 1 rfl) (by decide) (by omega) ?_
  refine hz_iloadn (pc := 4) 1 (hz_dec kX11_message 2 rfl) rfl ?_
  refine hz_aloadn (pc := 5) 0 (hz_dec kX11_message 3 rfl) rfl ?_
  refine hz_get (pc := 6) (hz_dec kX11_message 4 rfl) fo_X11_62 hH (by omega) (by omega) rfl ?_
  refine hz_get (pc := 9) (hz_dec kX11_message 5 rfl) fo_X11_342 hO (by omega) (by omega) rfl ?_
  refine hz_get (pc := 12) (hz_dec kX11_message 6 rfl) fo_X11_220 hrw (by omega) (by omega) rfl ?_
  refine hz_n_lt (pc := 15) (tgt := 20) (hz_dec kX11_message 7 rfl) (by decide) (by omega) (by omega) (fun h2 => ?_) (fun h2 => ?_)
  · skip
    refine hz_iloadn (pc := 20) 2 (hz_dec kX11_message 10 rfl) rfl ?_
    refine hz_swIn (pc := 21) (off := 35) (tgt := 56) (hz_dec kX11_message 11 rfl) (by decide) (by decide) rfl (by decide) ?_
    refine hz_aloadn (pc := 56) 0 (hz_dec kX11_message 12 rfl) rfl ?_
    refine hz_get (pc := 57) (hz_dec kX11_message 13 rfl) fo_X11_62 hH (by omega) (by omega) rfl ?_
    refine hz_get (pc := 60) (hz_dec kX11_message 14 rfl) fo_X11_343 hO (by omega) (by omega) rfl ?_
    refine hz_iloadn (pc := 63) 1 (hz_dec kX11_message 15 rfl) rfl ?_
    refine hz_iald (pc := 64) (j := k) (hz_dec kX11_message 16 rfl) k1 (by omega) (by omega) rfl (by omega) (by omega) ?_
    refine hz_eqi (pc := 65) (hX4 k hk).1 ?_
    exact hz_iret (pc := 65) (hz_dec kX11_message 17 rfl) rfl (hcP.no hR _)
  · skip
    exact absurd hk (by omega)
set_option maxHeartbeats 4000000 in
set_option maxRecDepth 100000 in
theorem c_msg1 {κ : hz_C} {z : Nat} {M : hz_M} {H : ho_H} (hz : 63 + 34 * (hoN H).length ≤ z) (hnn : (hoN H).length ≤ 6) (hT4 : (hoT H).length ≤ 4000) {ll : Nat} {fr kn : Int32} (hR : hcR M z H ll fr kn) {k : Nat} (hk : k < (hoQ H).1.length) : hz_Mt κ xX11_message 1 0 0 [.ref 8, .int (nI k), .int (nI 1)] z M (hcP M z H (.int ((msL (hoQ H).1 k).2.1)) H) := by
  refine hz_ent (lo := [(0, .ref 8), (1, .int (nI k)), (2, .int (nI 1))]) (by decide) (Nat.le_of_ble_eq_true rfl) rfl ?_
  have hH := hR.1
  have hNs := hR.2.1
  obtain ⟨hO, hQ, hD⟩ := id hR.2.2.2.2.1
  obtain ⟨g53, h53⟩ := hR.2.2.2.2.2.1
  have hJ := hR.2.2.2.1
  obtain ⟨g56, h56, hT56⟩ := hR.2.2.2.2.2.2.2.2.2.1
  have hdf := hR.2.2.2.2.2.2.2.2.2.2
  have hck : ck_k M z := hJ.2.2.2.2.2.2.2.1
  have hcs : ck_s M := hJ.2.2.2.2.2.2.2.2.1
  have hz63 : 63 ≤ z := by omega
  obtain ⟨f1, f2, f3, f4, k1, k2, k3, k4, hX4⟩ := id hQ.2
  have hrw := hQ.1.1
  rw [msB_len] at hrw
  obtain ⟨fB, gB, hfB, hgB, hxB⟩ := hQ.1.2.2.2
  have hql : (hoQ H).1.length ≤ 200 := by have q := hQ.1.2.1; rw [msB_len] at q; exact q
  have hqo : msO (hoQ H).1 (hoQ H).1.length ≤ 40000 := by have q := hQ.1.2.2.1; rw [msB_len] at q; exact q
  refine hz_iloadn (pc := 0) 1 (hz_dec kX11_message 0 rfl) rfl ?_
  refine hz_z_lt (pc := 1) (tgt := 18) (hz_dec kX11_message 1 rfl) (by decide) (by omega) ?_
  refine hz_iloadn (pc := 4) 1 (hz_dec kX11_message 2 rfl) rfl ?_
  refine hz_aloadn (pc := 5) 0 (hz_dec kX11_message 3 rfl) rfl ?_
  refine hz_get (pc := 6) (hz_dec kX11_message 4 rfl) fo_X11_62 hH (by omega) (by omega) rfl ?_
  refine hz_get (pc := 9) (hz_dec kX11_message 5 rfl) fo_X11_342 hO (by omega) (by omega) rfl ?_
  refine hz_get (pc := 12) (hz_dec kX11_message 6 rfl) fo_X11_220 hrw (by omega) (by omega) rfl ?_
  refine hz_n_lt (pc := 15) (tgt := 20) (hz_dec kX11_message 7 rfl) (by decide) (by omega) (by omega) (fun h2 => ?_) (fun h2 => ?_)
  · skip
    refine hz_iloadn (pc := 20) 2 (hz_dec kX11_message 10 rfl) rfl ?_
    refine hz_swIn (pc := 21) (off := 45) (tgt := 66) (hz_dec kX11_message 11 rfl) (by decide) (by decide) rfl (by decide) ?_
    refine hz_aloadn (pc := 66) 0 (hz_dec kX11_message 18 rfl) rfl ?_
    refine hz_get (pc := 67) (hz_dec kX11_message 19 rfl) fo_X11_62 hH (by omega) (by omega) rfl ?_
    refine hz_get (pc := 70) (hz_dec kX11_message 20 rfl) fo_X11_346 hO (by omega) (by omega) rfl ?_
    refine hz_iloadn (pc := 73) 1 (hz_dec kX11_message 21 rfl) rfl ?_
    refine hz_iald (pc := 74) (j := k) (hz_dec kX11_message 22 rfl) k2 (by omega) (by omega) rfl (by omega) (by omega) ?_
    refine hz_eqi (pc := 75) (hX4 k hk).2.1 ?_
    exact hz_iret (pc := 75) (hz_dec kX11_message 23 rfl) rfl (hcP.no hR _)
  · skip
    exact absurd hk (by omega)
set_option maxHeartbeats 4000000 in
set_option maxRecDepth 100000 in
theorem c_msg2 {κ : hz_C} {z : Nat} {M : hz_M} {H : ho_H} (hz : 63 + 34 * (hoN H).length ≤ z) (hnn : (hoN H).length ≤ 6) (hT4 : (hoT H).length ≤ 4000) {ll : Nat} {fr kn : Int32} (hR : hcR M z H ll fr kn) {k : Nat} (hk : k < (hoQ H).1.length) : hz_Mt κ xX11_message 1 0 0 [.ref 8, .int (nI k), .int (nI 2)] z M (hcP M z H (.int ((msL (hoQ H).1 k).2.2.1)) H) := by
  refine hz_ent (lo := [(0, .ref 8), (1, .int (nI k)), (2, .int (nI 2))]) (by decide) (Nat.le_of_ble_eq_true rfl) rfl ?_
  have hH := hR.1
  have hNs := hR.2.1
  obtain ⟨hO, hQ, hD⟩ := id hR.2.2.2.2.1
  obtain ⟨g53, h53⟩ := hR.2.2.2.2.2.1
  have hJ := hR.2.2.2.1
  obtain ⟨g56, h56, hT56⟩ := hR.2.2.2.2.2.2.2.2.2.1
  have hdf := hR.2.2.2.2.2.2.2.2.2.2
  have hck : ck_k M z := hJ.2.2.2.2.2.2.2.1
  have hcs : ck_s M := hJ.2.2.2.2.2.2.2.2.1
  have hz63 : 63 ≤ z := by omega
  obtain ⟨f1, f2, f3, f4, k1, k2, k3, k4, hX4⟩ := id hQ.2
  have hrw := hQ.1.1
  rw [msB_len] at hrw
  obtain ⟨fB, gB, hfB, hgB, hxB⟩ := hQ.1.2.2.2
  have hql : (hoQ H).1.length ≤ 200 := by have q := hQ.1.2.1; rw [msB_len] at q; exact q
  have hqo : msO (hoQ H).1 (hoQ H).1.length ≤ 40000 := by have q := hQ.1.2.2.1; rw [msB_len] at q; exact q
  refine hz_iloadn (pc := 0) 1 (hz_dec kX11_message 0 rfl) rfl ?_
  refine hz_z_lt (pc := 1) (tgt := 18) (hz_dec kX11_message 1 rfl) (by decide) (by omega) ?_
  refine hz_iloadn (pc := 4) 1 (hz_dec kX11_message 2 rfl) rfl ?_
  refine hz_aloadn (pc := 5) 0 (hz_dec kX11_message 3 rfl) rfl ?_
  refine hz_get (pc := 6) (hz_dec kX11_message 4 rfl) fo_X11_62 hH (by omega) (by omega) rfl ?_
  refine hz_get (pc := 9) (hz_dec kX11_message 5 rfl) fo_X11_342 hO (by omega) (by omega) rfl ?_
  refine hz_get (pc := 12) (hz_dec kX11_message 6 rfl) fo_X11_220 hrw (by omega) (by omega) rfl ?_
  refine hz_n_lt (pc := 15) (tgt := 20) (hz_dec kX11_message 7 rfl) (by decide) (by omega) (by omega) (fun h2 => ?_) (fun h2 => ?_)
  · skip
    refine hz_iloadn (pc := 20) 2 (hz_dec kX11_message 10 rfl) rfl ?_
    refine hz_swIn (pc := 21) (off := 55) (tgt := 76) (hz_dec kX11_message 11 rfl) (by decide) (by decide) rfl (by decide) ?_
    refine hz_aloadn (pc := 76) 0 (hz_dec kX11_message 24 rfl) rfl ?_
    refine hz_get (pc := 77) (hz_dec kX11_message 25 rfl) fo_X11_62 hH (by omega) (by omega) rfl ?_
    refine hz_get (pc := 80) (hz_dec kX11_message 26 rfl) fo_X11_349 hO (by omega) (by omega) rfl ?_
    refine hz_iloadn (pc := 83) 1 (hz_dec kX11_message 27 rfl) rfl ?_
    refine hz_iald (pc := 84) (j := k) (hz_dec kX11_message 28 rfl) k3 (by omega) (by omega) rfl (by omega) (by omega) ?_
    refine hz_eqi (pc := 85) (hX4 k hk).2.2.1 ?_
    exact hz_iret (pc := 85) (hz_dec kX11_message 29 rfl) rfl (hcP.no hR _)
  · skip
    exact absurd hk (by omega)
set_option maxHeartbeats 4000000 in
set_option maxRecDepth 100000 in
theorem c_msg3 {κ : hz_C} {z : Nat} {M : hz_M} {H : ho_H} (hz : 63 + 34 * (hoN H).length ≤ z) (hnn : (hoN H).length ≤ 6) (hT4 : (hoT H).length ≤ 4000) {ll : Nat} {fr kn : Int32} (hR : hcR M z H ll fr kn) {k : Nat} (hk : k < (hoQ H).1.length) : hz_Mt κ xX11_message 1 0 0 [.ref 8, .int (nI k), .int (nI 3)] z M (hcP M z H (.int ((msL (hoQ H).1 k).2.2.2.1)) H) := by
  refine hz_ent (lo := [(0, .ref 8), (1, .int (nI k)), (2, .int (nI 3))]) (by decide) (Nat.le_of_ble_eq_true rfl) rfl ?_
  have hH := hR.1
  have hNs := hR.2.1
  obtain ⟨hO, hQ, hD⟩ := id hR.2.2.2.2.1
  obtain ⟨g53, h53⟩ := hR.2.2.2.2.2.1
  have hJ := hR.2.2.2.1
  obtain ⟨g56, h56, hT56⟩ := hR.2.2.2.2.2.2.2.2.2.1
  have hdf := hR.2.2.2.2.2.2.2.2.2.2
  have hck : ck_k M z := hJ.2.2.2.2.2.2.2.1
  have hcs : ck_s M := hJ.2.2.2.2.2.2.2.2.1
  have hz63 : 63 ≤ z := by omega
  obtain ⟨f1, f2, f3, f4, k1, k2, k3, k4, hX4⟩ := id hQ.2
  have hrw := hQ.1.1
  rw [msB_len] at hrw
  obtain ⟨fB, gB, hfB, hgB, hxB⟩ := hQ.1.2.2.2
  have hql : (hoQ H).1.length ≤ 200 := by have q := hQ.1.2.1; rw [msB_len] at q; exact q
  have hqo : msO (hoQ H).1 (hoQ H).1.length ≤ 40000 := by have q := hQ.1.2.2.1; rw [msB_len] at q; exact q
  refine hz_iloadn (pc := 0) 1 (hz_dec kX11_message 0 rfl) rfl ?_
  refine hz_z_lt (pc := 1) (tgt := 18) (hz_dec kX11_message 1 rfl) (by decide) (by omega) ?_
  refine hz_iloadn (pc := 4) 1 (hz_dec kX11_message 2 rfl) rfl ?_
  refine hz_aloadn (pc := 5) 0 (hz_dec kX11_message 3 rfl) rfl ?_
  refine hz_get (pc := 6) (hz_dec kX11_message 4 rfl) fo_X11_62 hH (by omega) (by omega) rfl ?_
  refine hz_get (pc := 9) (hz_dec kX11_message 5 rfl) fo_X11_342 hO (by omega) (by omega) rfl ?_
  refine hz_get (pc := 12) (hz_dec kX11_message 6 rfl) fo_X11_220 hrw (by omega) (by omega) rfl ?_
  refine hz_n_lt (pc := 15) (tgt := 20) (hz_dec kX11_message 7 rfl) (by decide) (by omega) (by omega) (fun h2 => ?_) (fun h2 => ?_)
  · skip
    refine hz_iloadn (pc := 20) 2 (hz_dec kX11_message 10 rfl) rfl ?_
    refine hz_swIn (pc := 21) (off := 65) (tgt := 86) (hz_dec kX11_message 11 rfl) (by decide) (by decide) rfl (by decide) ?_
    refine hz_aloadn (pc := 86) 0 (hz_dec kX11_message 30 rfl) rfl ?_
    refine hz_get (pc := 87) (hz_dec kX11_message 31 rfl) fo_X11_62 hH (by omega) (by omega) rfl ?_
    refine hz_get (pc := 90) (hz_dec kX11_message 32 rfl) fo_X11_352 hO (by omega) (by omega) rfl ?_
    refine hz_iloadn (pc := 93) 1 (hz_dec kX11_message 33 rfl) rfl ?_
    refine hz_iald (pc := 94) (j := k) (hz_dec kX11_message 34 rfl) k4 (by omega) (by omega) rfl (by omega) (by omega) ?_
    refine hz_eqi (pc := 95) (hX4 k hk).2.2.2 ?_
    exact hz_iret (pc := 95) (hz_dec kX11_message 35 rfl) rfl (hcP.no hR _)
  · skip
    exact absurd hk (by omega)
set_option maxHeartbeats 4000000 in
set_option maxRecDepth 100000 in
theorem c_msg4 {κ : hz_C} {z : Nat} {M : hz_M} {H : ho_H} (hz : 63 + 34 * (hoN H).length ≤ z) (hnn : (hoN H).length ≤ 6) (hT4 : (hoT H).length ≤ 4000) {ll : Nat} {fr kn : Int32} (hR : hcR M z H ll fr kn) {k : Nat} (hk : k < (hoQ H).1.length) : hz_Mt κ xX11_message 1 0 0 [.ref 8, .int (nI k), .int (nI 4)] z M (hcP M z H (.int (nI (msL (hoQ H).1 k).2.2.2.2.length)) H) := by
  refine hz_ent (lo := [(0, .ref 8), (1, .int (nI k)), (2, .int (nI 4))]) (by decide) (Nat.le_of_ble_eq_true rfl) rfl ?_
  have hH := hR.1
  have hNs := hR.2.1
  obtain ⟨hO, hQ, hD⟩ := id hR.2.2.2.2.1
  obtain ⟨g53, h53⟩ := hR.2.2.2.2.2.1
  have hJ := hR.2.2.2.1
  obtain ⟨g56, h56, hT56⟩ := hR.2.2.2.2.2.2.2.2.2.1
  have hdf := hR.2.2.2.2.2.2.2.2.2.2
  have hck : ck_k M z := hJ.2.2.2.2.2.2.2.1
  have hcs : ck_s M := hJ.2.2.2.2.2.2.2.2.1
  have hz63 : 63 ≤ z := by omega
  obtain ⟨f1, f2, f3, f4, k1, k2, k3, k4, hX4⟩ := id hQ.2
  have hrw := hQ.1.1
  rw [msB_len] at hrw
  obtain ⟨fB, gB, hfB, hgB, hxB⟩ := hQ.1.2.2.2
  have hql : (hoQ H).1.length ≤ 200 := by have q := hQ.1.2.1; rw [msB_len] at q; exact q
  have hqo : msO (hoQ H).1 (hoQ H).1.length ≤ 40000 := by have q := hQ.1.2.2.1; rw [msB_len] at q; exact q
  refine hz_iloadn (pc := 0) 1 (hz_dec kX11_message 0 rfl) rfl ?_
  refine hz_z_lt (pc := 1) (tgt := 18) (hz_dec kX11_message 1 rfl) (by decide) (by omega) ?_
  refine hz_iloadn (pc := 4) 1 (hz_dec kX11_message 2 rfl) rfl ?_
  refine hz_aloadn (pc := 5) 0 (hz_dec kX11_message 3 rfl) rfl ?_
  refine hz_get (pc := 6) (hz_dec kX11_message 4 rfl) fo_X11_62 hH (by omega) (by omega) rfl ?_
  refine hz_get (pc := 9) (hz_dec kX11_message 5 rfl) fo_X11_342 hO (by omega) (by omega) rfl ?_
  refine hz_get (pc := 12) (hz_dec kX11_message 6 rfl) fo_X11_220 hrw (by omega) (by omega) rfl ?_
  refine hz_n_lt (pc := 15) (tgt := 20) (hz_dec kX11_message 7 rfl) (by decide) (by omega) (by omega) (fun h2 => ?_) (fun h2 => ?_)
  · skip
    refine hz_iloadn (pc := 20) 2 (hz_dec kX11_message 10 rfl) rfl ?_
    refine hz_swIn (pc := 21) (off := 75) (tgt := 96) (hz_dec kX11_message 11 rfl) (by decide) (by decide) rfl (by decide) ?_
    refine hz_aloadn (pc := 96) 0 (hz_dec kX11_message 36 rfl) rfl ?_
    refine hz_get (pc := 97) (hz_dec kX11_message 37 rfl) fo_X11_62 hH (by omega) (by omega) rfl ?_
    refine hz_get (pc := 100) (hz_dec kX11_message 38 rfl) fo_X11_342 hO (by omega) (by omega) rfl ?_
    refine hz_iloadn (pc := 103) 1 (hz_dec kX11_message 39 rfl) rfl ?_
    refine hz_xV (pc := 104) (a := 46) (As := [.int (nI k)]) (st := []) (hz_dec kX11_message 40 rfl) co_X11_221 im_X7_lengthOf se_X7_lengthOf rfl hrw (by omega) (by omega) (c_lenOf hQ.1 (by decide) (by omega) (by decide) (by decide) (k := k) (by rw [msB_len]; exact hk)) rfl (by decide) ⟨Nat.le_refl _, Nat.le_refl _⟩ (Nat.le_of_ble_eq_true rfl) rfl ?_
    exact hz_iret (pc := 107) (hz_dec kX11_message 41 rfl) rfl (by rw [rowL_ms]; exact hcP.no hR _)
  · skip
    exact absurd hk (by omega)
set_option maxHeartbeats 4000000 in
set_option maxRecDepth 100000 in
theorem c_msgW {κ : hz_C} {z : Nat} {M : hz_M} {H : ho_H} (hz : 63 + 34 * (hoN H).length ≤ z) (hnn : (hoN H).length ≤ 6) (hT4 : (hoT H).length ≤ 4000) {ll : Nat} {fr kn : Int32} (hR : hcR M z H ll fr kn) {k : Nat} (hk : k < (hoQ H).1.length) {wh : Int32} (hw : wh.toInt < 0 ∨ 4 < wh.toInt) : hz_Mt κ xX11_message 1 0 0 [.ref 8, .int (nI k), .int wh] z M (hcP M z H (.int (-1)) H) := by
  refine hz_ent (lo := [(0, .ref 8), (1, .int (nI k)), (2, .int wh)]) (by decide) (Nat.le_of_ble_eq_true rfl) rfl ?_
  have hH := hR.1
  have hNs := hR.2.1
  obtain ⟨hO, hQ, hD⟩ := id hR.2.2.2.2.1
  obtain ⟨g53, h53⟩ := hR.2.2.2.2.2.1
  have hJ := hR.2.2.2.1
  obtain ⟨g56, h56, hT56⟩ := hR.2.2.2.2.2.2.2.2.2.1
  have hdf := hR.2.2.2.2.2.2.2.2.2.2
  have hck : ck_k M z := hJ.2.2.2.2.2.2.2.1
  have hcs : ck_s M := hJ.2.2.2.2.2.2.2.2.1
  have hz63 : 63 ≤ z := by omega
  obtain ⟨f1, f2, f3, f4, k1, k2, k3, k4, hX4⟩ := id hQ.2
  have hrw := hQ.1.1
  rw [msB_len] at hrw
  obtain ⟨fB, gB, hfB, hgB, hxB⟩ := hQ.1.2.2.2
  have hql : (hoQ H).1.length ≤ 200 := by have q := hQ.1.2.1; rw [msB_len] at q; exact q
  have hqo : msO (hoQ H).1 (hoQ H).1.length ≤ 40000 := by have q := hQ.1.2.2.1; rw [msB_len] at q; exact q
  refine hz_iloadn (pc := 0) 1 (hz_dec kX11_message 0 rfl) rfl ?_
  refine hz_z_lt (pc := 1) (tgt := 18) (hz_dec kX11_message 1 rfl) (by decide) (by omega) ?_
  refine hz_iloadn (pc := 4) 1 (hz_dec kX11_message 2 rfl) rfl ?_
  refine hz_aloadn (pc := 5) 0 (hz_dec kX11_message 3 rfl) rfl ?_
  refine hz_get (pc := 6) (hz_dec kX11_message 4 rfl) fo_X11_62 hH (by omega) (by omega) rfl ?_
  refine hz_get (pc := 9) (hz_dec kX11_message 5 rfl) fo_X11_342 hO (by omega) (by omega) rfl ?_
  refine hz_get (pc := 12) (hz_dec kX11_message 6 rfl) fo_X11_220 hrw (by omega) (by omega) rfl ?_
  refine hz_n_lt (pc := 15) (tgt := 20) (hz_dec kX11_message 7 rfl) (by decide) (by omega) (by omega) (fun h2 => ?_) (fun h2 => ?_)
  · skip
    refine hz_iloadn (pc := 20) 2 (hz_dec kX11_message 10 rfl) rfl ?_
    refine hz_swOut (pc := 21) (tgt := 108) (hz_dec kX11_message 11 rfl) hw (by decide) ?_
    refine hz_iconst (pc := 108) (v := (-1)) (hz_dec kX11_message 42 rfl) (by decide) ?_
    exact hz_iret (pc := 109) (hz_dec kX11_message 43 rfl) rfl (hcP.no hR _)
  · skip
    exact absurd hk (by omega)
set_option maxHeartbeats 4000000 in
set_option maxRecDepth 100000 in
theorem c_msgB {κ : hz_C} {z : Nat} {M : hz_M} {H : ho_H} (hz : 63 + 34 * (hoN H).length ≤ z) (hnn : (hoN H).length ≤ 6) (hT4 : (hoT H).length ≤ 4000) {ll : Nat} {fr kn : Int32} (hR : hcR M z H ll fr kn) {k wh : Int32} (hk : k < 0 ∨ ¬ k < nI (hoQ H).1.length) : hz_Mt κ xX11_message 1 0 0 [.ref 8, .int k, .int wh] z M (hcP M z H (.int (-1)) H) := by
  refine hz_ent (lo := [(0, .ref 8), (1, .int k), (2, .int wh)]) (by decide) (Nat.le_of_ble_eq_true rfl) rfl ?_
  have hH := hR.1
  have hNs := hR.2.1
  obtain ⟨hO, hQ, hD⟩ := id hR.2.2.2.2.1
  obtain ⟨g53, h53⟩ := hR.2.2.2.2.2.1
  have hJ := hR.2.2.2.1
  obtain ⟨g56, h56, hT56⟩ := hR.2.2.2.2.2.2.2.2.2.1
  have hdf := hR.2.2.2.2.2.2.2.2.2.2
  have hck : ck_k M z := hJ.2.2.2.2.2.2.2.1
  have hcs : ck_s M := hJ.2.2.2.2.2.2.2.2.1
  have hz63 : 63 ≤ z := by omega
  obtain ⟨f1, f2, f3, f4, k1, k2, k3, k4, hX4⟩ := id hQ.2
  have hrw := hQ.1.1
  rw [msB_len] at hrw
  obtain ⟨fB, gB, hfB, hgB, hxB⟩ := hQ.1.2.2.2
  have hql : (hoQ H).1.length ≤ 200 := by have q := hQ.1.2.1; rw [msB_len] at q; exact q
  have hqo : msO (hoQ H).1 (hoQ H).1.length ≤ 40000 := by have q := hQ.1.2.2.1; rw [msB_len] at q; exact q
  refine hz_iloadn (pc := 0) 1 (hz_dec kX11_message 0 rfl) rfl ?_
  refine hz_if_lt (pc := 1) (tgt := 18) (hz_dec kX11_message 1 rfl) (by decide) (fun h1 => ?_) (fun h1 => ?_)
  · skip
    refine hz_iconst (pc := 18) (v := (-1)) (hz_dec kX11_message 8 rfl) (by decide) ?_
    exact hz_iret (pc := 19) (hz_dec kX11_message 9 rfl) rfl (hcP.no hR _)
  · skip
    refine hz_iloadn (pc := 4) 1 (hz_dec kX11_message 2 rfl) rfl ?_
    refine hz_aloadn (pc := 5) 0 (hz_dec kX11_message 3 rfl) rfl ?_
    refine hz_get (pc := 6) (hz_dec kX11_message 4 rfl) fo_X11_62 hH (by omega) (by omega) rfl ?_
    refine hz_get (pc := 9) (hz_dec kX11_message 5 rfl) fo_X11_342 hO (by omega) (by omega) rfl ?_
    refine hz_get (pc := 12) (hz_dec kX11_message 6 rfl) fo_X11_220 hrw (by omega) (by omega) rfl ?_
    refine hz_icmp_lt (pc := 15) (tgt := 20) (hz_dec kX11_message 7 rfl) (by decide) (fun h2 => ?_) (fun h2 => ?_)
    · skip
      exact absurd h2 (hk.resolve_left h1)
    · skip
      refine hz_iconst (pc := 18) (v := (-1)) (hz_dec kX11_message 8 rfl) (by decide) ?_
      exact hz_iret (pc := 19) (hz_dec kX11_message 9 rfl) rfl (hcP.no hR _)
set_option maxHeartbeats 4000000 in
set_option maxRecDepth 100000 in
theorem c_rmsg0 {κ : hz_C} {z B : Nat} {M : hz_M} {H : ho_H} (hnn : (hoN H).length ≤ 6) (hT4 : (hoT H).length ≤ 4000) (hR : hmR M z B H) {k : Nat} (hk : k < (hoQ H).1.length) : hz_Mt κ xX12_message 0 0 0 [.ref B, .int (nI k), .int (nI 0)] z M (hmP M z B (.int ((msL (hoQ H).1 k).1)) H) := by
  refine hz_ent (lo := [(0, .ref B), (1, .int (nI k)), (2, .int (nI 0))]) (by decide) (Nat.le_of_ble_eq_true rfl) rfl ?_
  obtain ⟨hk0_, hE0, ⟨m1, m2, m3⟩, hNd, a5, a6, a7, a8⟩ := id hR
  obtain ⟨⟨fs, hO, hF⟩, -, -, h8, hz⟩ := id hk0_
  obtain ⟨x1, x3, x4, x5, x6, x7, x8⟩ := id m3
  refine hz_aloadn (pc := 0) 0 (hz_dec kX12_message 0 rfl) rfl ?_
  refine hz_iconst (pc := 1) (v := nI 0) (hz_dec kX12_message 1 rfl) (by decide) ?_
  refine hz_puti (pc := 2) (hz_dec kX12_message 2 rfl) fo_X12_302 ft_X12_0 hO h8 (by omega) (by rw [hF.1]; decide) ?_
  have hf1 : mfr B [0, 89] [] M (va_up M B (.inr (12, (List.set fs 0 (.int (nI 0)))))) := (mfr.rf ⟨fs, hO, hF⟩).upO (k := 0) hO hF rfl rfl
  have hR1 : hmR (va_up M B (.inr (12, (List.set fs 0 (.int (nI 0)))))) z B H := hR.m0 hf1 hE0.upO ((fdB_of (va_up_self _ _ _) 89).trans ((List.getElem?_set_ne (by decide)).trans ((fdB_of hO 89).symm.trans x8)))
  generalize (va_up M B (.inr (12, (List.set fs 0 (.int (nI 0)))))) = M1 at *
  obtain ⟨hk1, hE1, ⟨n1, d1, q1⟩, hNd1, a51, a61, a71, a81⟩ := id hR1
  obtain ⟨⟨fs1, hO1, hF1⟩, -, -, -, -⟩ := id hk1
  have g86_1 : fs1[86]? = some (.int (nI ((hoQ H).1.length))) := (fdB_of hO1 86).symm.trans q1.2.2.2.1
  have hql : (hoQ H).1.length ≤ 200 := q1.2.1
  refine hz_iloadn (pc := 5) 1 (hz_dec kX12_message 3 rfl) rfl ?_
  refine hz_z_lt (pc := 6) (tgt := 17) (hz_dec kX12_message 4 rfl) (by decide) (by omega) ?_
  refine hz_iloadn (pc := 9) 1 (hz_dec kX12_message 5 rfl) rfl ?_
  refine hz_aloadn (pc := 10) 0 (hz_dec kX12_message 6 rfl) rfl ?_
  refine hz_get (pc := 11) (v := .int (nI ((hoQ H).1.length))) (hz_dec kX12_message 7 rfl) fo_X12_610 hO1 h8 (by omega) g86_1 ?_
  refine hz_n_lt (pc := 14) (tgt := 19) (hz_dec kX12_message 8 rfl) (by decide) (by omega) (by omega) (fun h2 => ?_) (fun h2 => ?_)
  · skip
    refine hz_iloadn (pc := 19) 2 (hz_dec kX12_message 11 rfl) rfl ?_
    refine hz_swIn (pc := 20) (off := 36) (tgt := 56) (hz_dec kX12_message 12 rfl) (by decide) (by decide) rfl (by decide) ?_
    refine hz_aloadn (pc := 56) 0 (hz_dec kX12_message 13 rfl) rfl ?_
    refine hz_get (pc := 57) (v := .ref (B + 70)) (hz_dec kX12_message 14 rfl) fo_X12_230 hO1 h8 (by omega) (hF1.2 79 (by decide) (by decide)) ?_
    refine hz_iloadn (pc := 60) 1 (hz_dec kX12_message 15 rfl) rfl ?_
    refine hz_iald (pc := 61) (j := k) (hz_dec kX12_message 16 rfl) hE1.a70 (by omega) (by omega) rfl (by omega) (by decide) ?_
    refine hz_eqi (pc := 62) (q1.1.1 k hk).1 ?_
    exact hz_iret (pc := 62) (hz_dec kX12_message 17 rfl) rfl ⟨rfl, rfl, hf1.S rfl, hR1⟩
  · skip
    exact absurd hk (by omega)
set_option maxHeartbeats 4000000 in
set_option maxRecDepth 100000 in
theorem c_rmsg1 {κ : hz_C} {z B : Nat} {M : hz_M} {H : ho_H} (hnn : (hoN H).length ≤ 6) (hT4 : (hoT H).length ≤ 4000) (hR : hmR M z B H) {k : Nat} (hk : k < (hoQ H).1.length) : hz_Mt κ xX12_message 0 0 0 [.ref B, .int (nI k), .int (nI 1)] z M (hmP M z B (.int ((msL (hoQ H).1 k).2.1)) H) := by
  refine hz_ent (lo := [(0, .ref B), (1, .int (nI k)), (2, .int (nI 1))]) (by decide) (Nat.le_of_ble_eq_true rfl) rfl ?_
  obtain ⟨hk0_, hE0, ⟨m1, m2, m3⟩, hNd, a5, a6, a7, a8⟩ := id hR
  obtain ⟨⟨fs, hO, hF⟩, -, -, h8, hz⟩ := id hk0_
  obtain ⟨x1, x3, x4, x5, x6, x7, x8⟩ := id m3
  refine hz_aloadn (pc := 0) 0 (hz_dec kX12_message 0 rfl) rfl ?_
  refine hz_iconst (pc := 1) (v := nI 0) (hz_dec kX12_message 1 rfl) (by decide) ?_
  refine hz_puti (pc := 2) (hz_dec kX12_message 2 rfl) fo_X12_302 ft_X12_0 hO h8 (by omega) (by rw [hF.1]; decide) ?_
  have hf1 : mfr B [0, 89] [] M (va_up M B (.inr (12, (List.set fs 0 (.int (nI 0)))))) := (mfr.rf ⟨fs, hO, hF⟩).upO (k := 0) hO hF rfl rfl
  have hR1 : hmR (va_up M B (.inr (12, (List.set fs 0 (.int (nI 0)))))) z B H := hR.m0 hf1 hE0.upO ((fdB_of (va_up_self _ _ _) 89).trans ((List.getElem?_set_ne (by decide)).trans ((fdB_of hO 89).symm.trans x8)))
  generalize (va_up M B (.inr (12, (List.set fs 0 (.int (nI 0)))))) = M1 at *
  obtain ⟨hk1, hE1, ⟨n1, d1, q1⟩, hNd1, a51, a61, a71, a81⟩ := id hR1
  obtain ⟨⟨fs1, hO1, hF1⟩, -, -, -, -⟩ := id hk1
  have g86_1 : fs1[86]? = some (.int (nI ((hoQ H).1.length))) := (fdB_of hO1 86).symm.trans q1.2.2.2.1
  have hql : (hoQ H).1.length ≤ 200 := q1.2.1
  refine hz_iloadn (pc := 5) 1 (hz_dec kX12_message 3 rfl) rfl ?_
  refine hz_z_lt (pc := 6) (tgt := 17) (hz_dec kX12_message 4 rfl) (by decide) (by omega) ?_
  refine hz_iloadn (pc := 9) 1 (hz_dec kX12_message 5 rfl) rfl ?_
  refine hz_aloadn (pc := 10) 0 (hz_dec kX12_message 6 rfl) rfl ?_
  refine hz_get (pc := 11) (v := .int (nI ((hoQ H).1.length))) (hz_dec kX12_message 7 rfl) fo_X12_610 hO1 h8 (by omega) g86_1 ?_
  refine hz_n_lt (pc := 14) (tgt := 19) (hz_dec kX12_message 8 rfl) (by decide) (by omega) (by omega) (fun h2 => ?_) (fun h2 => ?_)
  · skip
    refine hz_iloadn (pc := 19) 2 (hz_dec kX12_message 11 rfl) rfl ?_
    refine hz_swIn (pc := 20) (off := 43) (tgt := 63) (hz_dec kX12_message 12 rfl) (by decide) (by decide) rfl (by decide) ?_
    refine hz_aloadn (pc := 63) 0 (hz_dec kX12_message 18 rfl) rfl ?_
    refine hz_get (pc := 64) (v := .ref (B + 71)) (hz_dec kX12_message 19 rfl) fo_X12_233 hO1 h8 (by omega) (hF1.2 80 (by decide) (by decide)) ?_
    refine hz_iloadn (pc := 67) 1 (hz_dec kX12_message 20 rfl) rfl ?_
    refine hz_iald (pc := 68) (j := k) (hz_dec kX12_message 21 rfl) hE1.a71 (by omega) (by omega) rfl (by omega) (by decide) ?_
    refine hz_eqi (pc := 69) (q1.1.1 k hk).2.1 ?_
    exact hz_iret (pc := 69) (hz_dec kX12_message 22 rfl) rfl ⟨rfl, rfl, hf1.S rfl, hR1⟩
  · skip
    exact absurd hk (by omega)
set_option maxHeartbeats 4000000 in
set_option maxRecDepth 100000 in
theorem c_rmsg2 {κ : hz_C} {z B : Nat} {M : hz_M} {H : ho_H} (hnn : (hoN H).length ≤ 6) (hT4 : (hoT H).length ≤ 4000) (hR : hmR M z B H) {k : Nat} (hk : k < (hoQ H).1.length) : hz_Mt κ xX12_message 0 0 0 [.ref B, .int (nI k), .int (nI 2)] z M (hmP M z B (.int ((msL (hoQ H).1 k).2.2.1)) H) := by
  refine hz_ent (lo := [(0, .ref B), (1, .int (nI k)), (2, .int (nI 2))]) (by decide) (Nat.le_of_ble_eq_true rfl) rfl ?_
  obtain ⟨hk0_, hE0, ⟨m1, m2, m3⟩, hNd, a5, a6, a7, a8⟩ := id hR
  obtain ⟨⟨fs, hO, hF⟩, -, -, h8, hz⟩ := id hk0_
  obtain ⟨x1, x3, x4, x5, x6, x7, x8⟩ := id m3
  refine hz_aloadn (pc := 0) 0 (hz_dec kX12_message 0 rfl) rfl ?_
  refine hz_iconst (pc := 1) (v := nI 0) (hz_dec kX12_message 1 rfl) (by decide) ?_
  refine hz_puti (pc := 2) (hz_dec kX12_message 2 rfl) fo_X12_302 ft_X12_0 hO h8 (by omega) (by rw [hF.1]; decide) ?_
  have hf1 : mfr B [0, 89] [] M (va_up M B (.inr (12, (List.set fs 0 (.int (nI 0)))))) := (mfr.rf ⟨fs, hO, hF⟩).upO (k := 0) hO hF rfl rfl
  have hR1 : hmR (va_up M B (.inr (12, (List.set fs 0 (.int (nI 0)))))) z B H := hR.m0 hf1 hE0.upO ((fdB_of (va_up_self _ _ _) 89).trans ((List.getElem?_set_ne (by decide)).trans ((fdB_of hO 89).symm.trans x8)))
  generalize (va_up M B (.inr (12, (List.set fs 0 (.int (nI 0)))))) = M1 at *
  obtain ⟨hk1, hE1, ⟨n1, d1, q1⟩, hNd1, a51, a61, a71, a81⟩ := id hR1
  obtain ⟨⟨fs1, hO1, hF1⟩, -, -, -, -⟩ := id hk1
  have g86_1 : fs1[86]? = some (.int (nI ((hoQ H).1.length))) := (fdB_of hO1 86).symm.trans q1.2.2.2.1
  have hql : (hoQ H).1.length ≤ 200 := q1.2.1
  refine hz_iloadn (pc := 5) 1 (hz_dec kX12_message 3 rfl) rfl ?_
  refine hz_z_lt (pc := 6) (tgt := 17) (hz_dec kX12_message 4 rfl) (by decide) (by omega) ?_
  refine hz_iloadn (pc := 9) 1 (hz_dec kX12_message 5 rfl) rfl ?_
  refine hz_aloadn (pc := 10) 0 (hz_dec kX12_message 6 rfl) rfl ?_
  refine hz_get (pc := 11) (v := .int (nI ((hoQ H).1.length))) (hz_dec kX12_message 7 rfl) fo_X12_610 hO1 h8 (by omega) g86_1 ?_
  refine hz_n_lt (pc := 14) (tgt := 19) (hz_dec kX12_message 8 rfl) (by decide) (by omega) (by omega) (fun h2 => ?_) (fun h2 => ?_)
  · skip
    refine hz_iloadn (pc := 19) 2 (hz_dec kX12_message 11 rfl) rfl ?_
    refine hz_swIn (pc := 20) (off := 50) (tgt := 70) (hz_dec kX12_message 12 rfl) (by decide) (by decide) rfl (by decide) ?_
    refine hz_aloadn (pc := 70) 0 (hz_dec kX12_message 23 rfl) rfl ?_
    refine hz_get (pc := 71) (v := .ref (B + 72)) (hz_dec kX12_message 24 rfl) fo_X12_236 hO1 h8 (by omega) (hF1.2 81 (by decide) (by decide)) ?_
    refine hz_iloadn (pc := 74) 1 (hz_dec kX12_message 25 rfl) rfl ?_
    refine hz_iald (pc := 75) (j := k) (hz_dec kX12_message 26 rfl) hE1.a72 (by omega) (by omega) rfl (by omega) (by decide) ?_
    refine hz_eqi (pc := 76) (q1.1.1 k hk).2.2.1 ?_
    exact hz_iret (pc := 76) (hz_dec kX12_message 27 rfl) rfl ⟨rfl, rfl, hf1.S rfl, hR1⟩
  · skip
    exact absurd hk (by omega)
set_option maxHeartbeats 4000000 in
set_option maxRecDepth 100000 in
theorem c_rmsg3 {κ : hz_C} {z B : Nat} {M : hz_M} {H : ho_H} (hnn : (hoN H).length ≤ 6) (hT4 : (hoT H).length ≤ 4000) (hR : hmR M z B H) {k : Nat} (hk : k < (hoQ H).1.length) : hz_Mt κ xX12_message 0 0 0 [.ref B, .int (nI k), .int (nI 3)] z M (hmP M z B (.int ((msL (hoQ H).1 k).2.2.2.1)) H) := by
  refine hz_ent (lo := [(0, .ref B), (1, .int (nI k)), (2, .int (nI 3))]) (by decide) (Nat.le_of_ble_eq_true rfl) rfl ?_
  obtain ⟨hk0_, hE0, ⟨m1, m2, m3⟩, hNd, a5, a6, a7, a8⟩ := id hR
  obtain ⟨⟨fs, hO, hF⟩, -, -, h8, hz⟩ := id hk0_
  obtain ⟨x1, x3, x4, x5, x6, x7, x8⟩ := id m3
  refine hz_aloadn (pc := 0) 0 (hz_dec kX12_message 0 rfl) rfl ?_
  refine hz_iconst (pc := 1) (v := nI 0) (hz_dec kX12_message 1 rfl) (by decide) ?_
  refine hz_puti (pc := 2) (hz_dec kX12_message 2 rfl) fo_X12_302 ft_X12_0 hO h8 (by omega) (by rw [hF.1]; decide) ?_
  have hf1 : mfr B [0, 89] [] M (va_up M B (.inr (12, (List.set fs 0 (.int (nI 0)))))) := (mfr.rf ⟨fs, hO, hF⟩).upO (k := 0) hO hF rfl rfl
  have hR1 : hmR (va_up M B (.inr (12, (List.set fs 0 (.int (nI 0)))))) z B H := hR.m0 hf1 hE0.upO ((fdB_of (va_up_self _ _ _) 89).trans ((List.getElem?_set_ne (by decide)).trans ((fdB_of hO 89).symm.trans x8)))
  generalize (va_up M B (.inr (12, (List.set fs 0 (.int (nI 0)))))) = M1 at *
  obtain ⟨hk1, hE1, ⟨n1, d1, q1⟩, hNd1, a51, a61, a71, a81⟩ := id hR1
  obtain ⟨⟨fs1, hO1, hF1⟩, -, -, -, -⟩ := id hk1
  have g86_1 : fs1[86]? = some (.int (nI ((hoQ H).1.length))) := (fdB_of hO1 86).symm.trans q1.2.2.2.1
  have hql : (hoQ H).1.length ≤ 200 := q1.2.1
  refine hz_iloadn (pc := 5) 1 (hz_dec kX12_message 3 rfl) rfl ?_
  refine hz_z_lt (pc := 6) (tgt := 17) (hz_dec kX12_message 4 rfl) (by decide) (by omega) ?_
  refine hz_iloadn (pc := 9) 1 (hz_dec kX12_message 5 rfl) rfl ?_
  refine hz_aloadn (pc := 10) 0 (hz_dec kX12_message 6 rfl) rfl ?_
  refine hz_get (pc := 11) (v := .int (nI ((hoQ H).1.length))) (hz_dec kX12_message 7 rfl) fo_X12_610 hO1 h8 (by omega) g86_1 ?_
  refine hz_n_lt (pc := 14) (tgt := 19) (hz_dec kX12_message 8 rfl) (by decide) (by omega) (by omega) (fun h2 => ?_) (fun h2 => ?_)
  · skip
    refine hz_iloadn (pc := 19) 2 (hz_dec kX12_message 11 rfl) rfl ?_
    refine hz_swIn (pc := 20) (off := 57) (tgt := 77) (hz_dec kX12_message 12 rfl) (by decide) (by decide) rfl (by decide) ?_
    refine hz_aloadn (pc := 77) 0 (hz_dec kX12_message 28 rfl) rfl ?_
    refine hz_get (pc := 78) (v := .ref (B + 73)) (hz_dec kX12_message 29 rfl) fo_X12_239 hO1 h8 (by omega) (hF1.2 82 (by decide) (by decide)) ?_
    refine hz_iloadn (pc := 81) 1 (hz_dec kX12_message 30 rfl) rfl ?_
    refine hz_iald (pc := 82) (j := k) (hz_dec kX12_message 31 rfl) hE1.a73 (by omega) (by omega) rfl (by omega) (by decide) ?_
    refine hz_eqi (pc := 83) (q1.1.1 k hk).2.2.2 ?_
    exact hz_iret (pc := 83) (hz_dec kX12_message 32 rfl) rfl ⟨rfl, rfl, hf1.S rfl, hR1⟩
  · skip
    exact absurd hk (by omega)
set_option maxHeartbeats 4000000 in
set_option maxRecDepth 100000 in
theorem c_rmsg4 {κ : hz_C} {z B : Nat} {M : hz_M} {H : ho_H} (hnn : (hoN H).length ≤ 6) (hT4 : (hoT H).length ≤ 4000) (hR : hmR M z B H) {k : Nat} (hk : k < (hoQ H).1.length) : hz_Mt κ xX12_message 0 0 0 [.ref B, .int (nI k), .int (nI 4)] z M (hmP M z B (.int (nI (msL (hoQ H).1 k).2.2.2.2.length)) H) := by
  refine hz_ent (lo := [(0, .ref B), (1, .int (nI k)), (2, .int (nI 4))]) (by decide) (Nat.le_of_ble_eq_true rfl) rfl ?_
  obtain ⟨hk0_, hE0, ⟨m1, m2, m3⟩, hNd, a5, a6, a7, a8⟩ := id hR
  obtain ⟨⟨fs, hO, hF⟩, -, -, h8, hz⟩ := id hk0_
  obtain ⟨x1, x3, x4, x5, x6, x7, x8⟩ := id m3
  refine hz_aloadn (pc := 0) 0 (hz_dec kX12_message 0 rfl) rfl ?_
  refine hz_iconst (pc := 1) (v := nI 0) (hz_dec kX12_message 1 rfl) (by decide) ?_
  refine hz_puti (pc := 2) (hz_dec kX12_message 2 rfl) fo_X12_302 ft_X12_0 hO h8 (by omega) (by rw [hF.1]; decide) ?_
  have hf1 : mfr B [0, 89] [] M (va_up M B (.inr (12, (List.set fs 0 (.int (nI 0)))))) := (mfr.rf ⟨fs, hO, hF⟩).upO (k := 0) hO hF rfl rfl
  have hR1 : hmR (va_up M B (.inr (12, (List.set fs 0 (.int (nI 0)))))) z B H := hR.m0 hf1 hE0.upO ((fdB_of (va_up_self _ _ _) 89).trans ((List.getElem?_set_ne (by decide)).trans ((fdB_of hO 89).symm.trans x8)))
  generalize (va_up M B (.inr (12, (List.set fs 0 (.int (nI 0)))))) = M1 at *
  obtain ⟨hk1, hE1, ⟨n1, d1, q1⟩, hNd1, a51, a61, a71, a81⟩ := id hR1
  obtain ⟨⟨fs1, hO1, hF1⟩, -, -, -, -⟩ := id hk1
  have g86_1 : fs1[86]? = some (.int (nI ((hoQ H).1.length))) := (fdB_of hO1 86).symm.trans q1.2.2.2.1
  have hql : (hoQ H).1.length ≤ 200 := q1.2.1
  refine hz_iloadn (pc := 5) 1 (hz_dec kX12_message 3 rfl) rfl ?_
  refine hz_z_lt (pc := 6) (tgt := 17) (hz_dec kX12_message 4 rfl) (by decide) (by omega) ?_
  refine hz_iloadn (pc := 9) 1 (hz_dec kX12_message 5 rfl) rfl ?_
  refine hz_aloadn (pc := 10) 0 (hz_dec kX12_message 6 rfl) rfl ?_
  refine hz_get (pc := 11) (v := .int (nI ((hoQ H).1.length))) (hz_dec kX12_message 7 rfl) fo_X12_610 hO1 h8 (by omega) g86_1 ?_
  refine hz_n_lt (pc := 14) (tgt := 19) (hz_dec kX12_message 8 rfl) (by decide) (by omega) (by omega) (fun h2 => ?_) (fun h2 => ?_)
  · skip
    refine hz_iloadn (pc := 19) 2 (hz_dec kX12_message 11 rfl) rfl ?_
    refine hz_swIn (pc := 20) (off := 64) (tgt := 84) (hz_dec kX12_message 12 rfl) (by decide) (by decide) rfl (by decide) ?_
    refine hz_aloadn (pc := 84) 0 (hz_dec kX12_message 33 rfl) rfl ?_
    refine hz_get (pc := 85) (v := .ref (B + 74)) (hz_dec kX12_message 34 rfl) fo_X12_242 hO1 h8 (by omega) (hF1.2 83 (by decide) (by decide)) ?_
    refine hz_iloadn (pc := 88) 1 (hz_dec kX12_message 35 rfl) rfl ?_
    refine hz_iald (pc := 89) (j := k) (hz_dec kX12_message 36 rfl) hE1.a74 (by omega) (by omega) rfl (by omega) (by decide) ?_
    refine hz_eqi (pc := 90) (q1.1.2 k hk).1 ?_
    exact hz_iret (pc := 90) (hz_dec kX12_message 37 rfl) rfl ⟨rfl, rfl, hf1.S rfl, hR1⟩
  · skip
    exact absurd hk (by omega)
set_option maxHeartbeats 4000000 in
set_option maxRecDepth 100000 in
theorem c_rmsgW {κ : hz_C} {z B : Nat} {M : hz_M} {H : ho_H} (hnn : (hoN H).length ≤ 6) (hT4 : (hoT H).length ≤ 4000) (hR : hmR M z B H) {k : Nat} (hk : k < (hoQ H).1.length) {wh : Int32} (hw : wh.toInt < 0 ∨ 4 < wh.toInt) : hz_Mt κ xX12_message 0 0 0 [.ref B, .int (nI k), .int wh] z M (hmP M z B (.int (-1)) H) := by
  refine hz_ent (lo := [(0, .ref B), (1, .int (nI k)), (2, .int wh)]) (by decide) (Nat.le_of_ble_eq_true rfl) rfl ?_
  obtain ⟨hk0_, hE0, ⟨m1, m2, m3⟩, hNd, a5, a6, a7, a8⟩ := id hR
  obtain ⟨⟨fs, hO, hF⟩, -, -, h8, hz⟩ := id hk0_
  obtain ⟨x1, x3, x4, x5, x6, x7, x8⟩ := id m3
  refine hz_aloadn (pc := 0) 0 (hz_dec kX12_message 0 rfl) rfl ?_
  refine hz_iconst (pc := 1) (v := nI 0) (hz_dec kX12_message 1 rfl) (by decide) ?_
  refine hz_puti (pc := 2) (hz_dec kX12_message 2 rfl) fo_X12_302 ft_X12_0 hO h8 (by omega) (by rw [hF.1]; decide) ?_
  have hf1 : mfr B [0, 89] [] M (va_up M B (.inr (12, (List.set fs 0 (.int (nI 0)))))) := (mfr.rf ⟨fs, hO, hF⟩).upO (k := 0) hO hF rfl rfl
  have hR1 : hmR (va_up M B (.inr (12, (List.set fs 0 (.int (nI 0)))))) z B H := hR.m0 hf1 hE0.upO ((fdB_of (va_up_self _ _ _) 89).trans ((List.getElem?_set_ne (by decide)).trans ((fdB_of hO 89).symm.trans x8)))
  generalize (va_up M B (.inr (12, (List.set fs 0 (.int (nI 0)))))) = M1 at *
  obtain ⟨hk1, hE1, ⟨n1, d1, q1⟩, hNd1, a51, a61, a71, a81⟩ := id hR1
  obtain ⟨⟨fs1, hO1, hF1⟩, -, -, -, -⟩ := id hk1
  have g86_1 : fs1[86]? = some (.int (nI ((hoQ H).1.length))) := (fdB_of hO1 86).symm.trans q1.2.2.2.1
  have hql : (hoQ H).1.length ≤ 200 := q1.2.1
  refine hz_iloadn (pc := 5) 1 (hz_dec kX12_message 3 rfl) rfl ?_
  refine hz_z_lt (pc := 6) (tgt := 17) (hz_dec kX12_message 4 rfl) (by decide) (by omega) ?_
  refine hz_iloadn (pc := 9) 1 (hz_dec kX12_message 5 rfl) rfl ?_
  refine hz_aloadn (pc := 10) 0 (hz_dec kX12_message 6 rfl) rfl ?_
  refine hz_get (pc := 11) (v := .int (nI ((hoQ H).1.length))) (hz_dec kX12_message 7 rfl) fo_X12_610 hO1 h8 (by omega) g86_1 ?_
  refine hz_n_lt (pc := 14) (tgt := 19) (hz_dec kX12_message 8 rfl) (by decide) (by omega) (by omega) (fun h2 => ?_) (fun h2 => ?_)
  · skip
    refine hz_iloadn (pc := 19) 2 (hz_dec kX12_message 11 rfl) rfl ?_
    refine hz_swOut (pc := 20) (tgt := 91) (hz_dec kX12_message 12 rfl) hw (by decide) ?_
    refine hz_iconst (pc := 91) (v := (-1)) (hz_dec kX12_message 38 rfl) (by decide) ?_
    exact hz_iret (pc := 92) (hz_dec kX12_message 39 rfl) rfl ⟨rfl, rfl, hf1.S rfl, hR1⟩
  · skip
    exact absurd hk (by omega)
set_option maxHeartbeats 4000000 in
set_option maxRecDepth 100000 in
theorem c_rmsgB {κ : hz_C} {z B : Nat} {M : hz_M} {H : ho_H} (hnn : (hoN H).length ≤ 6) (hT4 : (hoT H).length ≤ 4000) (hR : hmR M z B H) {k wh : Int32} (hk : k < 0 ∨ ¬ k < nI (hoQ H).1.length) : hz_Mt κ xX12_message 0 0 0 [.ref B, .int k, .int wh] z M (hmP M z B (.int (-1)) H) := by
  refine hz_ent (lo := [(0, .ref B), (1, .int k), (2, .int wh)]) (by decide) (Nat.le_of_ble_eq_true rfl) rfl ?_
  obtain ⟨hk0_, hE0, ⟨m1, m2, m3⟩, hNd, a5, a6, a7, a8⟩ := id hR
  obtain ⟨⟨fs, hO, hF⟩, -, -, h8, hz⟩ := id hk0_
  obtain ⟨x1, x3, x4, x5, x6, x7, x8⟩ := id m3
  refine hz_aloadn (pc := 0) 0 (hz_dec kX12_message 0 rfl) rfl ?_
  refine hz_iconst (pc := 1) (v := nI 0) (hz_dec kX12_message 1 rfl) (by decide) ?_
  refine hz_puti (pc := 2) (hz_dec kX12_message 2 rfl) fo_X12_302 ft_X12_0 hO h8 (by omega) (by rw [hF.1]; decide) ?_
  have hf1 : mfr B [0, 89] [] M (va_up M B (.inr (12, (List.set fs 0 (.int (nI 0)))))) := (mfr.rf ⟨fs, hO, hF⟩).upO (k := 0) hO hF rfl rfl
  have hR1 : hmR (va_up M B (.inr (12, (List.set fs 0 (.int (nI 0)))))) z B H := hR.m0 hf1 hE0.upO ((fdB_of (va_up_self _ _ _) 89).trans ((List.getElem?_set_ne (by decide)).trans ((fdB_of hO 89).symm.trans x8)))
  generalize (va_up M B (.inr (12, (List.set fs 0 (.int (nI 0)))))) = M1 at *
  obtain ⟨hk1, hE1, ⟨n1, d1, q1⟩, hNd1, a51, a61, a71, a81⟩ := id hR1
  obtain ⟨⟨fs1, hO1, hF1⟩, -, -, -, -⟩ := id hk1
  have g86_1 : fs1[86]? = some (.int (nI ((hoQ H).1.length))) := (fdB_of hO1 86).symm.trans q1.2.2.2.1
  refine hz_iloadn (pc := 5) 1 (hz_dec kX12_message 3 rfl) rfl ?_
  refine hz_if_lt (pc := 6) (tgt := 17) (hz_dec kX12_message 4 rfl) (by decide) (fun h1 => ?_) (fun h1 => ?_)
  · skip
    refine hz_iconst (pc := 17) (v := (-1)) (hz_dec kX12_message 9 rfl) (by decide) ?_
    exact hz_iret (pc := 18) (hz_dec kX12_message 10 rfl) rfl ⟨rfl, rfl, hf1.S rfl, hR1⟩
  · skip
    refine hz_iloadn (pc := 9) 1 (hz_dec kX12_message 5 rfl) rfl ?_
    refine hz_aloadn (pc := 10) 0 (hz_dec kX12_message 6 rfl) rfl ?_
    refine hz_get (pc := 11) (v := .int (nI ((hoQ H).1.length))) (hz_dec kX12_message 7 rfl) fo_X12_610 hO1 h8 (by omega) g86_1 ?_
    refine hz_icmp_lt (pc := 14) (tgt := 19) (hz_dec kX12_message 8 rfl) (by decide) (fun h2 => ?_) (fun h2 => ?_)
    · skip
      exact absurd h2 (hk.resolve_left h1)
    · skip
      refine hz_iconst (pc := 17) (v := (-1)) (hz_dec kX12_message 9 rfl) (by decide) ?_
      exact hz_iret (pc := 18) (hz_dec kX12_message 10 rfl) rfl ⟨rfl, rfl, hf1.S rfl, hR1⟩
set_option maxHeartbeats 4000000 in
set_option maxRecDepth 100000 in
theorem c_mby {κ : hz_C} {z : Nat} {M : hz_M} {H : ho_H} (hz : 63 + 34 * (hoN H).length ≤ z) (hnn : (hoN H).length ≤ 6) (hT4 : (hoT H).length ≤ 4000) {ll : Nat} {fr kn : Int32} (hR : hcR M z H ll fr kn) {k i : Nat} (hk : k < (hoQ H).1.length) (hi : i < (msL (hoQ H).1 k).2.2.2.2.length) : hz_Mt κ xX11_messageByte 2 0 0 [.ref 8, .int (nI k), .int (nI i)] z M (hcP M z H (.int (nI (bb (lf (msL (hoQ H).1 k).2.2.2.2 i)))) H) := by
  refine hz_ent (lo := [(0, .ref 8), (1, .int (nI k)), (2, .int (nI i))]) (by decide) (Nat.le_of_ble_eq_true rfl) rfl ?_
  have hH := hR.1
  have hNs := hR.2.1
  obtain ⟨hO, hQ, hD⟩ := id hR.2.2.2.2.1
  obtain ⟨g53, h53⟩ := hR.2.2.2.2.2.1
  have hJ := hR.2.2.2.1
  obtain ⟨g56, h56, hT56⟩ := hR.2.2.2.2.2.2.2.2.2.1
  have hdf := hR.2.2.2.2.2.2.2.2.2.2
  have hck : ck_k M z := hJ.2.2.2.2.2.2.2.1
  have hcs : ck_s M := hJ.2.2.2.2.2.2.2.2.1
  have hz63 : 63 ≤ z := by omega
  obtain ⟨f1, f2, f3, f4, k1, k2, k3, k4, hX4⟩ := id hQ.2
  have hrw := hQ.1.1
  rw [msB_len] at hrw
  obtain ⟨fB, gB, hfB, hgB, hxB⟩ := hQ.1.2.2.2
  have hql : (hoQ H).1.length ≤ 200 := by have q := hQ.1.2.1; rw [msB_len] at q; exact q
  have hqo : msO (hoQ H).1 (hoQ H).1.length ≤ 40000 := by have q := hQ.1.2.2.1; rw [msB_len] at q; exact q
  have hi2 : i < (rowL (msB (hoQ H).1) k).length := by rw [rowL_ms]; exact hi
  have hk2 : k < (msB (hoQ H).1).length := by rw [msB_len]; exact hk
  have hB1 : fB (offL (msB (hoQ H).1) k + i) = lf (msL (hoQ H).1 k).2.2.2.2 i := by have q := hxB.2 k hk2 i hi2; rw [rowL_ms] at q; exact q
  have hob : offL (msB (hoQ H).1) k + i < 40000 := by have r := offL_mono (msB (hoQ H).1) (hoQ H).1.length (k + 1) (by omega); simp only [offL] at r; have r2 : offL (msB (hoQ H).1) (hoQ H).1.length ≤ 40000 := hqo; omega
  refine hz_aloadn (pc := 0) 0 (hz_dec kX11_messageByte 0 rfl) rfl ?_
  refine hz_get (pc := 1) (hz_dec kX11_messageByte 1 rfl) fo_X11_62 hH (by omega) (by omega) rfl ?_
  refine hz_get (pc := 4) (hz_dec kX11_messageByte 2 rfl) fo_X11_342 hO (by omega) (by omega) rfl ?_
  refine hz_iloadn (pc := 7) 1 (hz_dec kX11_messageByte 3 rfl) rfl ?_
  refine hz_iloadn (pc := 8) 2 (hz_dec kX11_messageByte 4 rfl) rfl ?_
  refine hz_xV (pc := 9) (a := 46) (As := [.int (nI k), .int (nI i)]) (st := []) (hz_dec kX11_messageByte 5 rfl) co_X11_355 im_X7_placeOf se_X7_placeOf rfl hrw (by omega) (by omega) (c_placeOf hQ.1 (by decide) (by omega) (by decide) (by decide) hk2 hi2) rfl (by decide) ⟨Nat.le_refl _, Nat.le_refl _⟩ (Nat.le_of_ble_eq_true rfl) rfl ?_
  refine hz_istoren (pc := 12) (i := 3) (lo2 := [(3, .int (nI (offL (msB (hoQ H).1) k + i))), (0, .ref 8), (1, .int (nI k)), (2, .int (nI i))]) (hz_dec kX11_messageByte 6 rfl) rfl (by decide) rfl ?_
  refine hz_iloadn (pc := 13) 0 (hz_dec kX11_messageByte 7 rfl) rfl ?_
  refine hz_z_ge (pc := 14) (tgt := 21) (hz_dec kX11_messageByte 8 rfl) (by decide) (by omega) ?_
  refine hz_aloadn (pc := 21) 1 (hz_dec kX11_messageByte 11 rfl) rfl ?_
  refine hz_get (pc := 22) (hz_dec kX11_messageByte 12 rfl) fo_X11_62 hH (by omega) (by omega) rfl ?_
  refine hz_get (pc := 25) (hz_dec kX11_messageByte 13 rfl) fo_X11_342 hO (by omega) (by omega) rfl ?_
  refine hz_get (pc := 28) (hz_dec kX11_messageByte 14 rfl) fo_X11_225 hrw (by omega) (by omega) rfl ?_
  refine hz_iloadn (pc := 31) 0 (hz_dec kX11_messageByte 15 rfl) rfl ?_
  refine hz_xS (pc := 32) (As := [.ref (46 + 1), .int (nI (offL (msB (hoQ H).1) k + i))]) (st := []) (hz_dec kX11_messageByte 16 rfl) co_X11_358 sc_X0_one (c_one hfB (by decide) (by omega) (by decide) hob) rfl (by decide) ⟨Nat.le_refl _, Nat.le_refl _⟩ (Nat.le_of_ble_eq_true rfl) rfl ?_
  exact hz_iret (pc := 35) (hz_dec kX11_messageByte 17 rfl) rfl (by rw [hB1]; exact hcP.no hR _)
set_option maxHeartbeats 4000000 in
set_option maxRecDepth 100000 in
theorem c_mbyB {κ : hz_C} {z : Nat} {M : hz_M} {H : ho_H} (hz : 63 + 34 * (hoN H).length ≤ z) (hnn : (hoN H).length ≤ 6) (hT4 : (hoT H).length ≤ 4000) {ll : Nat} {fr kn : Int32} (hR : hcR M z H ll fr kn) {k i : Int32} (hki : ∀ j : Nat, j < (hoQ H).1.length → k = nI j → i < 0 ∨ ¬ i < nI (msL (hoQ H).1 j).2.2.2.2.length) : hz_Mt κ xX11_messageByte 2 0 0 [.ref 8, .int k, .int i] z M (hcP M z H (.int (-1)) H) := by
  refine hz_ent (lo := [(0, .ref 8), (1, .int k), (2, .int i)]) (by decide) (Nat.le_of_ble_eq_true rfl) rfl ?_
  have hH := hR.1
  have hNs := hR.2.1
  obtain ⟨hO, hQ, hD⟩ := id hR.2.2.2.2.1
  obtain ⟨g53, h53⟩ := hR.2.2.2.2.2.1
  have hJ := hR.2.2.2.1
  obtain ⟨g56, h56, hT56⟩ := hR.2.2.2.2.2.2.2.2.2.1
  have hdf := hR.2.2.2.2.2.2.2.2.2.2
  have hck : ck_k M z := hJ.2.2.2.2.2.2.2.1
  have hcs : ck_s M := hJ.2.2.2.2.2.2.2.2.1
  have hz63 : 63 ≤ z := by omega
  obtain ⟨f1, f2, f3, f4, k1, k2, k3, k4, hX4⟩ := id hQ.2
  have hrw := hQ.1.1
  rw [msB_len] at hrw
  obtain ⟨fB, gB, hfB, hgB, hxB⟩ := hQ.1.2.2.2
  have hql : (hoQ H).1.length ≤ 200 := by have q := hQ.1.2.1; rw [msB_len] at q; exact q
  have hqo : msO (hoQ H).1 (hoQ H).1.length ≤ 40000 := by have q := hQ.1.2.2.1; rw [msB_len] at q; exact q
  refine hz_aloadn (pc := 0) 0 (hz_dec kX11_messageByte 0 rfl) rfl ?_
  refine hz_get (pc := 1) (hz_dec kX11_messageByte 1 rfl) fo_X11_62 hH (by omega) (by omega) rfl ?_
  refine hz_get (pc := 4) (hz_dec kX11_messageByte 2 rfl) fo_X11_342 hO (by omega) (by omega) rfl ?_
  refine hz_iloadn (pc := 7) 1 (hz_dec kX11_messageByte 3 rfl) rfl ?_
  refine hz_iloadn (pc := 8) 2 (hz_dec kX11_messageByte 4 rfl) rfl ?_
  refine hz_xV (pc := 9) (a := 46) (As := [.int k, .int i]) (st := []) (hz_dec kX11_messageByte 5 rfl) co_X11_355 im_X7_placeOf se_X7_placeOf rfl hrw (by omega) (by omega) (c_placeOf0 hQ.1 (by decide) (by omega) (by decide) (by decide) (k := k) (i := i) (fun j hj e => by rw [rowL_ms]; rw [msB_len] at hj; exact hki j hj e)) rfl (by decide) ⟨Nat.le_refl _, Nat.le_refl _⟩ (Nat.le_of_ble_eq_true rfl) rfl ?_
  refine hz_istoren (pc := 12) (i := 3) (lo2 := [(3, .int (-1)), (0, .ref 8), (1, .int k), (2, .int i)]) (hz_dec kX11_messageByte 6 rfl) rfl (by decide) rfl ?_
  refine hz_iloadn (pc := 13) 0 (hz_dec kX11_messageByte 7 rfl) rfl ?_
  refine hz_if_ge (pc := 14) (tgt := 21) (hz_dec kX11_messageByte 8 rfl) (by decide) (fun h1 => ?_) (fun h1 => ?_)
  · skip
    exact absurd h1 (by decide)
  · skip
    refine hz_iconst (pc := 17) (v := (-1)) (hz_dec kX11_messageByte 9 rfl) (by decide) ?_
    refine hz_goto (pc := 18) (tgt := 35) (hz_dec kX11_messageByte 10 rfl) (by decide) ?_
    exact hz_iret (pc := 35) (hz_dec kX11_messageByte 17 rfl) rfl (hcP.no hR _)
set_option maxHeartbeats 4000000 in
set_option maxRecDepth 100000 in
theorem c_altB {κ : hz_C} {z : Nat} {M : hz_M} {H : ho_H} (hz : 63 + 34 * (hoN H).length ≤ z) (hnn : (hoN H).length ≤ 6) (hT4 : (hoT H).length ≤ 4000) {ll : Nat} {fr kn : Int32} (hR : hcR M z H ll fr kn) {k i : Int32} (hki : ∀ j : Nat, j < (hoQ H).1.length → k = nI j → i < 0 ∨ ¬ i < nI (msL (hoQ H).1 j).2.2.2.2.length) {b : Int32} : hz_Mt κ xX11_alter 2 0 0 [.ref 8, .int k, .int i, .int b] z M (hcP M z H (.int (-1)) H) := by
  refine hz_ent (lo := [(0, .ref 8), (1, .int k), (2, .int i), (3, .int b)]) (by decide) (Nat.le_of_ble_eq_true rfl) rfl ?_
  have hH := hR.1
  have hNs := hR.2.1
  obtain ⟨hO, hQ, hD⟩ := id hR.2.2.2.2.1
  obtain ⟨g53, h53⟩ := hR.2.2.2.2.2.1
  have hJ := hR.2.2.2.1
  obtain ⟨g56, h56, hT56⟩ := hR.2.2.2.2.2.2.2.2.2.1
  have hdf := hR.2.2.2.2.2.2.2.2.2.2
  have hck : ck_k M z := hJ.2.2.2.2.2.2.2.1
  have hcs : ck_s M := hJ.2.2.2.2.2.2.2.2.1
  have hz63 : 63 ≤ z := by omega
  obtain ⟨f1, f2, f3, f4, k1, k2, k3, k4, hX4⟩ := id hQ.2
  have hrw := hQ.1.1
  rw [msB_len] at hrw
  obtain ⟨fB, gB, hfB, hgB, hxB⟩ := hQ.1.2.2.2
  have hql : (hoQ H).1.length ≤ 200 := by have q := hQ.1.2.1; rw [msB_len] at q; exact q
  have hqo : msO (hoQ H).1 (hoQ H).1.length ≤ 40000 := by have q := hQ.1.2.2.1; rw [msB_len] at q; exact q
  refine hz_aloadn (pc := 0) 0 (hz_dec kX11_alter 0 rfl) rfl ?_
  refine hz_get (pc := 1) (hz_dec kX11_alter 1 rfl) fo_X11_62 hH (by omega) (by omega) rfl ?_
  refine hz_get (pc := 4) (hz_dec kX11_alter 2 rfl) fo_X11_342 hO (by omega) (by omega) rfl ?_
  refine hz_iloadn (pc := 7) 1 (hz_dec kX11_alter 3 rfl) rfl ?_
  refine hz_iloadn (pc := 8) 2 (hz_dec kX11_alter 4 rfl) rfl ?_
  refine hz_xV (pc := 9) (a := 46) (As := [.int k, .int i]) (st := []) (hz_dec kX11_alter 5 rfl) co_X11_355 im_X7_placeOf se_X7_placeOf rfl hrw (by omega) (by omega) (c_placeOf0 hQ.1 (by decide) (by omega) (by decide) (by decide) (k := k) (i := i) (fun j hj e => by rw [rowL_ms]; rw [msB_len] at hj; exact hki j hj e)) rfl (by decide) ⟨Nat.le_refl _, Nat.le_refl _⟩ (Nat.le_of_ble_eq_true rfl) rfl ?_
  refine hz_istore (pc := 12) (i := 4) (lo2 := [(4, .int (-1)), (0, .ref 8), (1, .int k), (2, .int i), (3, .int b)]) (hz_dec kX11_alter 6 rfl) (by decide) rfl ?_
  refine hz_iload (pc := 14) 0 (hz_dec kX11_alter 7 rfl) rfl ?_
  refine hz_if_ge (pc := 16) (tgt := 21) (hz_dec kX11_alter 8 rfl) (by decide) (fun h1 => ?_) (fun h1 => ?_)
  · skip
    exact absurd h1 (by decide)
  · skip
    refine hz_iconst (pc := 19) (v := (-1)) (hz_dec kX11_alter 9 rfl) (by decide) ?_
    exact hz_iret (pc := 20) (hz_dec kX11_alter 10 rfl) rfl (hcP.no hR _)
set_option maxHeartbeats 4000000 in
set_option maxRecDepth 100000 in
theorem c_alt {κ : hz_C} {z : Nat} {M : hz_M} {H : ho_H} (hz : 63 + 34 * (hoN H).length ≤ z) (hnn : (hoN H).length ≤ 6) (hT4 : (hoT H).length ≤ 4000) {ll : Nat} {fr kn : Int32} (hR : hcR M z H ll fr kn) {k i : Nat} (hk : k < (hoQ H).1.length) (hi : i < (msL (hoQ H).1 k).2.2.2.2.length) {b : Int32} : hz_Mt κ xX11_alter 2 0 0 [.ref 8, .int (nI k), .int (nI i), .int b] z M (hcP M z H (.int (nI (bb (trB (lf (msL (hoQ H).1 k).2.2.2.2 i) b)))) (hoq H (alQ (hoQ H).1 k i (trB (lf (msL (hoQ H).1 k).2.2.2.2 i) b), (hoQ H).2))) := by
  refine hz_ent (lo := [(0, .ref 8), (1, .int (nI k)), (2, .int (nI i)), (3, .int b)]) (by decide) (Nat.le_of_ble_eq_true rfl) rfl ?_
  have hH := hR.1
  have hNs := hR.2.1
  obtain ⟨hO, hQ, hD⟩ := id hR.2.2.2.2.1
  obtain ⟨g53, h53⟩ := hR.2.2.2.2.2.1
  have hJ := hR.2.2.2.1
  obtain ⟨g56, h56, hT56⟩ := hR.2.2.2.2.2.2.2.2.2.1
  have hdf := hR.2.2.2.2.2.2.2.2.2.2
  have hck : ck_k M z := hJ.2.2.2.2.2.2.2.1
  have hcs : ck_s M := hJ.2.2.2.2.2.2.2.2.1
  have hz63 : 63 ≤ z := by omega
  obtain ⟨f1, f2, f3, f4, k1, k2, k3, k4, hX4⟩ := id hQ.2
  have hrw := hQ.1.1
  rw [msB_len] at hrw
  obtain ⟨fB, gB, hfB, hgB, hxB⟩ := hQ.1.2.2.2
  have hql : (hoQ H).1.length ≤ 200 := by have q := hQ.1.2.1; rw [msB_len] at q; exact q
  have hqo : msO (hoQ H).1 (hoQ H).1.length ≤ 40000 := by have q := hQ.1.2.2.1; rw [msB_len] at q; exact q
  have hi2 : i < (rowL (msB (hoQ H).1) k).length := by rw [rowL_ms]; exact hi
  have hk2 : k < (msB (hoQ H).1).length := by rw [msB_len]; exact hk
  have hB1 : fB (offL (msB (hoQ H).1) k + i) = lf (msL (hoQ H).1 k).2.2.2.2 i := by have q := hxB.2 k hk2 i hi2; rw [rowL_ms] at q; exact q
  have hob : offL (msB (hoQ H).1) k + i < 40000 := by have r := offL_mono (msB (hoQ H).1) (hoQ H).1.length (k + 1) (by omega); simp only [offL] at r; have r2 : offL (msB (hoQ H).1) (hoQ H).1.length ≤ 40000 := hqo; omega
  refine hz_aloadn (pc := 0) 0 (hz_dec kX11_alter 0 rfl) rfl ?_
  refine hz_get (pc := 1) (hz_dec kX11_alter 1 rfl) fo_X11_62 hH (by omega) (by omega) rfl ?_
  refine hz_get (pc := 4) (hz_dec kX11_alter 2 rfl) fo_X11_342 hO (by omega) (by omega) rfl ?_
  refine hz_iloadn (pc := 7) 1 (hz_dec kX11_alter 3 rfl) rfl ?_
  refine hz_iloadn (pc := 8) 2 (hz_dec kX11_alter 4 rfl) rfl ?_
  refine hz_xV (pc := 9) (a := 46) (As := [.int (nI k), .int (nI i)]) (st := []) (hz_dec kX11_alter 5 rfl) co_X11_355 im_X7_placeOf se_X7_placeOf rfl hrw (by omega) (by omega) (c_placeOf hQ.1 (by decide) (by omega) (by decide) (by decide) hk2 hi2) rfl (by decide) ⟨Nat.le_refl _, Nat.le_refl _⟩ (Nat.le_of_ble_eq_true rfl) rfl ?_
  refine hz_istore (pc := 12) (i := 4) (lo2 := [(4, .int (nI (offL (msB (hoQ H).1) k + i))), (0, .ref 8), (1, .int (nI k)), (2, .int (nI i)), (3, .int b)]) (hz_dec kX11_alter 6 rfl) (by decide) rfl ?_
  refine hz_iload (pc := 14) 0 (hz_dec kX11_alter 7 rfl) rfl ?_
  refine hz_z_ge (pc := 16) (tgt := 21) (hz_dec kX11_alter 8 rfl) (by decide) (by omega) ?_
  refine hz_aloadn (pc := 21) 1 (hz_dec kX11_alter 11 rfl) rfl ?_
  refine hz_get (pc := 22) (hz_dec kX11_alter 12 rfl) fo_X11_62 hH (by omega) (by omega) rfl ?_
  refine hz_get (pc := 25) (hz_dec kX11_alter 13 rfl) fo_X11_342 hO (by omega) (by omega) rfl ?_
  refine hz_get (pc := 28) (hz_dec kX11_alter 14 rfl) fo_X11_225 hrw (by omega) (by omega) rfl ?_
  refine hz_iload (pc := 31) 0 (hz_dec kX11_alter 15 rfl) rfl ?_
  refine hz_dup2 (pc := 33) (hz_dec kX11_alter 16 rfl) rfl rfl ?_
  refine hz_bald (pc := 34) (j := offL (msB (hoQ H).1) k + i) (hz_dec kX11_alter 17 rfl) hfB (by omega) (by omega) rfl (by omega) (by omega) ?_
  refine hz_eqi (pc := 35) hB1 ?_
  refine hz_iloadn (pc := 35) 4 (hz_dec kX11_alter 18 rfl) rfl ?_
  refine hz_i2b (pc := 36) (hz_dec kX11_alter 19 rfl) ?_
  refine hz_ixor (pc := 37) (hz_dec kX11_alter 20 rfl) ?_
  refine hz_i2b (pc := 38) (hz_dec kX11_alter 21 rfl) ?_
  refine hz_bast (pc := 39) (j := offL (msB (hoQ H).1) k + i) (hz_dec kX11_alter 22 rfl) hfB (by omega) (by omega) rfl (by omega) (by omega) ?_
  refine hz_mem (pc := 40) (M2 := (va_up M (46 + 1) (.inl (1, 40000, .inl (upd fB (offL (msB (hoQ H).1) k + i) (trB (lf (msL (hoQ H).1 k).2.2.2.2 i) b)))))) (by rw [trB_c]) ?_
  refine hz_aloadn (pc := 40) 1 (hz_dec kX11_alter 23 rfl) rfl ?_
  refine hz_get (pc := 41) (hz_dec kX11_alter 24 rfl) fo_X11_62 (hz_mne hH (by omega)) (by omega) (by omega) rfl ?_
  refine hz_get (pc := 44) (hz_dec kX11_alter 25 rfl) fo_X11_342 (hz_mne hO (by omega)) (by omega) (by omega) rfl ?_
  refine hz_get (pc := 47) (hz_dec kX11_alter 26 rfl) fo_X11_225 (hz_mne hrw (by omega)) (by omega) (by omega) rfl ?_
  refine hz_iload (pc := 50) 0 (hz_dec kX11_alter 27 rfl) rfl ?_
  refine hz_bald (pc := 52) (j := offL (msB (hoQ H).1) k + i) (hz_dec kX11_alter 28 rfl) (va_up_self _ _ _) (by omega) (by omega) rfl (by omega) (by omega) ?_
  refine hz_eqi (pc := 53) upd_s ?_
  refine hz_sipush (pc := 53) (v := nI 255) (hz_dec kX11_alter 29 rfl) (by decide) ?_
  refine hz_andB (pc := 56) (hz_dec kX11_alter 30 rfl) ?_
  have hf : frS [(45, 54)] M (va_up M (46 + 1) (.inl (1, 40000, .inl (upd fB (offL (msB (hoQ H).1) k + i) (trB (lf (msL (hoQ H).1 k).2.2.2.2 i) b))))) := ((frS.rf (S := [(45, 54)])).upr (a := 46 + 1) (by simp only [outS, and_true]; omega))
  have hA : ∀ j, j < (hoQ H).1.length → isA (upd fB (offL (msB (hoQ H).1) k + i) (trB (lf (msL (hoQ H).1 k).2.2.2.2 i) b)) (msO (hoQ H).1 j) (msL (alQ (hoQ H).1 k i (trB (lf (msL (hoQ H).1 k).2.2.2.2 i) b)) j).2.2.2.2 := alQ_A hk hi (fun j hj => by have q := hxB.2 j (by rw [msB_len]; exact hj); rw [rowL_ms] at q; exact q)
  have hQ2 : mlQ (va_up M (46 + 1) (.inl (1, 40000, .inl (upd fB (offL (msB (hoQ H).1) k + i) (trB (lf (msL (hoQ H).1 k).2.2.2.2 i) b))))) (alQ (hoQ H).1 k i (trB (lf (msL (hoQ H).1 k).2.2.2.2 i) b)) := ⟨⟨by rw [msB_len, alQ_len]; exact hz_mne hrw (by decide), by rw [msB_len, alQ_len]; exact hql, by rw [msB_len, alQ_len]; exact Nat.le_trans (Nat.le_of_eq (alQ_O hk _)) hqo, _, gB, va_up_self _ _ _, hz_mne hgB (by decide), fun j hj => by rw [msB_len, alQ_len] at hj; exact (hxB.1 j (by rw [msB_len]; exact hj)).trans (congrArg nI (alQ_O hk j).symm), fun j hj => by rw [msB_len, alQ_len] at hj; rw [rowL_ms, show offL (msB (alQ (hoQ H).1 k i (trB (lf (msL (hoQ H).1 k).2.2.2.2 i) b))) j = msO (hoQ H).1 j from alQ_O hk j]; exact hA j hj⟩, f1, f2, f3, f4, hz_mne k1 (by decide), hz_mne k2 (by decide), hz_mne k3 (by decide), hz_mne k4 (by decide), alQ_X hk hX4⟩
  have hR2 : hcR (va_up M (46 + 1) (.inl (1, 40000, .inl (upd fB (offL (msB (hoQ H).1) k + i) (trB (lf (msL (hoQ H).1 k).2.2.2.2 i) b))))) z (hoq H (alQ (hoQ H).1 k i (trB (lf (msL (hoQ H).1 k).2.2.2.2 i) b), (hoQ H).2)) ll fr kn := hcR.q (s := (alQ (hoQ H).1 k i (trB (lf (msL (hoQ H).1 k).2.2.2.2 i) b), (hoQ H).2)) hR hf (hz_mne hO (by decide)) hQ2 ⟨g53, hz_mne h53 (by decide)⟩
  exact hz_iret (pc := 57) (hz_dec kX11_alter 31 rfl) rfl ⟨rfl, rfl, (hf.mono (fun q (h9 : outS [(8, 63 + 34 * (hoN H).length)] q) => ⟨by have r := h9.1; omega, trivial⟩)), ll, fr, kn, hR2⟩
set_option maxHeartbeats 4000000 in
set_option maxRecDepth 100000 in
theorem c_hasB {κ : hz_C} {z B : Nat} {M : hz_M} {H : ho_H} (hR : hmR M z B H) {k i : Nat} (hk : k < (hoQ H).1.length) (hi : i < (msL (hoQ H).1 k).2.2.2.2.length) : hz_Mt κ xX12_hasByte 0 0 0 [.ref B, .int (nI k), .int (nI i)] z M (hz_ex (some (.int (nI 1))) z M) := by
  refine hz_ent (lo := [(0, .ref B), (1, .int (nI k)), (2, .int (nI i))]) (by decide) (Nat.le_of_ble_eq_true rfl) rfl ?_
  obtain ⟨hk1, hE1, ⟨n1, d1, q1⟩, -⟩ := id hR
  obtain ⟨⟨fs1, hO1, hF1⟩, -, -, h8, hz⟩ := id hk1
  have g86 : fs1[86]? = some (.int (nI (hoQ H).1.length)) := (fdB_of hO1 86).symm.trans q1.2.2.2.1
  have hql : (hoQ H).1.length ≤ 200 := q1.2.1
  have hmb : msO (hoQ H).1 k + (msL (hoQ H).1 k).2.2.2.2.length ≤ 40000 := by have r := msO_mo (q := (hoQ H).1) (show k + 1 ≤ (hoQ H).1.length by omega); rw [msO_st] at r; have r2 := q1.2.2.1; omega
  refine hz_iloadn (pc := 0) 1 (hz_dec kX12_hasByte 0 rfl) rfl ?_
  refine hz_z_lt (pc := 1) (tgt := 30) (hz_dec kX12_hasByte 1 rfl) (by decide) (by omega) ?_
  refine hz_iloadn (pc := 4) 1 (hz_dec kX12_hasByte 2 rfl) rfl ?_
  refine hz_aloadn (pc := 5) 0 (hz_dec kX12_hasByte 3 rfl) rfl ?_
  refine hz_get (pc := 6) (v := .int (nI ((hoQ H).1.length))) (hz_dec kX12_hasByte 4 rfl) fo_X12_610 hO1 h8 (by omega) g86 ?_
  refine hz_n_ge (pc := 9) (tgt := 30) (hz_dec kX12_hasByte 5 rfl) (by decide) (by omega) (by omega) (fun h2 => ?_) (fun h2 => ?_)
  · skip
    exact absurd hk (by omega)
  · skip
    refine hz_iloadn (pc := 12) 2 (hz_dec kX12_hasByte 6 rfl) rfl ?_
    refine hz_z_lt (pc := 13) (tgt := 30) (hz_dec kX12_hasByte 7 rfl) (by decide) (by omega) ?_
    refine hz_iloadn (pc := 16) 2 (hz_dec kX12_hasByte 8 rfl) rfl ?_
    refine hz_aloadn (pc := 17) 0 (hz_dec kX12_hasByte 9 rfl) rfl ?_
    refine hz_get (pc := 18) (v := .ref (B + 74)) (hz_dec kX12_hasByte 10 rfl) fo_X12_242 hO1 h8 (by omega) (hF1.2 83 (by decide) (by decide)) ?_
    refine hz_iloadn (pc := 21) 1 (hz_dec kX12_hasByte 11 rfl) rfl ?_
    refine hz_iald (pc := 22) (j := k) (hz_dec kX12_hasByte 12 rfl) hE1.a74 (by omega) (by omega) rfl (by omega) (by decide) ?_
    refine hz_eqi (pc := 23) (q1.1.2 k hk).1 ?_
    refine hz_n_ge (pc := 23) (tgt := 30) (hz_dec kX12_hasByte 13 rfl) (by decide) (by omega) (by omega) (fun h4 => ?_) (fun h4 => ?_)
    · skip
      exact absurd hi (by omega)
    · skip
      refine hz_iconst (pc := 26) (v := nI 1) (hz_dec kX12_hasByte 14 rfl) (by decide) ?_
      refine hz_goto (pc := 27) (tgt := 31) (hz_dec kX12_hasByte 15 rfl) (by decide) ?_
      exact hz_zret (pc := 31) (hz_dec kX12_hasByte 17 rfl) rfl rfl ⟨rfl, rfl, rfl⟩
set_option maxHeartbeats 4000000 in
set_option maxRecDepth 100000 in
theorem c_hasBk {κ : hz_C} {z B : Nat} {M : hz_M} {H : ho_H} (hR : hmR M z B H) {k i : Int32} (hk : k < 0 ∨ ¬ k < nI (hoQ H).1.length) : hz_Mt κ xX12_hasByte 0 0 0 [.ref B, .int k, .int i] z M (hz_ex (some (.int (nI 0))) z M) := by
  refine hz_ent (lo := [(0, .ref B), (1, .int k), (2, .int i)]) (by decide) (Nat.le_of_ble_eq_true rfl) rfl ?_
  obtain ⟨hk1, hE1, ⟨n1, d1, q1⟩, -⟩ := id hR
  obtain ⟨⟨fs1, hO1, hF1⟩, -, -, h8, hz⟩ := id hk1
  have g86 : fs1[86]? = some (.int (nI (hoQ H).1.length)) := (fdB_of hO1 86).symm.trans q1.2.2.2.1
  have hql : (hoQ H).1.length ≤ 200 := q1.2.1
  refine hz_iloadn (pc := 0) 1 (hz_dec kX12_hasByte 0 rfl) rfl ?_
  refine hz_if_lt (pc := 1) (tgt := 30) (hz_dec kX12_hasByte 1 rfl) (by decide) (fun h1 => ?_) (fun h1 => ?_)
  · skip
    refine hz_iconst (pc := 30) (v := nI 0) (hz_dec kX12_hasByte 16 rfl) (by decide) ?_
    exact hz_zret (pc := 31) (hz_dec kX12_hasByte 17 rfl) rfl rfl ⟨rfl, rfl, rfl⟩
  · skip
    refine hz_iloadn (pc := 4) 1 (hz_dec kX12_hasByte 2 rfl) rfl ?_
    refine hz_aloadn (pc := 5) 0 (hz_dec kX12_hasByte 3 rfl) rfl ?_
    refine hz_get (pc := 6) (v := .int (nI ((hoQ H).1.length))) (hz_dec kX12_hasByte 4 rfl) fo_X12_610 hO1 h8 (by omega) g86 ?_
    refine hz_icmp_ge (pc := 9) (tgt := 30) (hz_dec kX12_hasByte 5 rfl) (by decide) (fun h2 => ?_) (fun h2 => ?_)
    · skip
      refine hz_iconst (pc := 30) (v := nI 0) (hz_dec kX12_hasByte 16 rfl) (by decide) ?_
      exact hz_zret (pc := 31) (hz_dec kX12_hasByte 17 rfl) rfl rfl ⟨rfl, rfl, rfl⟩
    · skip
      exact absurd (Int32.not_le.mp h2) (hk.resolve_left h1)
set_option maxHeartbeats 4000000 in
set_option maxRecDepth 100000 in
theorem c_hasBi {κ : hz_C} {z B : Nat} {M : hz_M} {H : ho_H} (hR : hmR M z B H) {k : Nat} (hk : k < (hoQ H).1.length) {i : Int32} (hi : i < 0 ∨ ¬ i < nI (msL (hoQ H).1 k).2.2.2.2.length) : hz_Mt κ xX12_hasByte 0 0 0 [.ref B, .int (nI k), .int i] z M (hz_ex (some (.int (nI 0))) z M) := by
  refine hz_ent (lo := [(0, .ref B), (1, .int (nI k)), (2, .int i)]) (by decide) (Nat.le_of_ble_eq_true rfl) rfl ?_
  obtain ⟨hk1, hE1, ⟨n1, d1, q1⟩, -⟩ := id hR
  obtain ⟨⟨fs1, hO1, hF1⟩, -, -, h8, hz⟩ := id hk1
  have g86 : fs1[86]? = some (.int (nI (hoQ H).1.length)) := (fdB_of hO1 86).symm.trans q1.2.2.2.1
  have hql : (hoQ H).1.length ≤ 200 := q1.2.1
  refine hz_iloadn (pc := 0) 1 (hz_dec kX12_hasByte 0 rfl) rfl ?_
  refine hz_z_lt (pc := 1) (tgt := 30) (hz_dec kX12_hasByte 1 rfl) (by decide) (by omega) ?_
  refine hz_iloadn (pc := 4) 1 (hz_dec kX12_hasByte 2 rfl) rfl ?_
  refine hz_aloadn (pc := 5) 0 (hz_dec kX12_hasByte 3 rfl) rfl ?_
  refine hz_get (pc := 6) (v := .int (nI ((hoQ H).1.length))) (hz_dec kX12_hasByte 4 rfl) fo_X12_610 hO1 h8 (by omega) g86 ?_
  refine hz_n_ge (pc := 9) (tgt := 30) (hz_dec kX12_hasByte 5 rfl) (by decide) (by omega) (by omega) (fun h2 => ?_) (fun h2 => ?_)
  · skip
    exact absurd hk (by omega)
  · skip
    refine hz_iloadn (pc := 12) 2 (hz_dec kX12_hasByte 6 rfl) rfl ?_
    refine hz_if_lt (pc := 13) (tgt := 30) (hz_dec kX12_hasByte 7 rfl) (by decide) (fun h3 => ?_) (fun h3 => ?_)
    · skip
      refine hz_iconst (pc := 30) (v := nI 0) (hz_dec kX12_hasByte 16 rfl) (by decide) ?_
      exact hz_zret (pc := 31) (hz_dec kX12_hasByte 17 rfl) rfl rfl ⟨rfl, rfl, rfl⟩
    · skip
      refine hz_iloadn (pc := 16) 2 (hz_dec kX12_hasByte 8 rfl) rfl ?_
      refine hz_aloadn (pc := 17) 0 (hz_dec kX12_hasByte 9 rfl) rfl ?_
      refine hz_get (pc := 18) (v := .ref (B + 74)) (hz_dec kX12_hasByte 10 rfl) fo_X12_242 hO1 h8 (by omega) (hF1.2 83 (by decide) (by decide)) ?_
      refine hz_iloadn (pc := 21) 1 (hz_dec kX12_hasByte 11 rfl) rfl ?_
      refine hz_iald (pc := 22) (j := k) (hz_dec kX12_hasByte 12 rfl) hE1.a74 (by omega) (by omega) rfl (by omega) (by decide) ?_
      refine hz_eqi (pc := 23) (q1.1.2 k hk).1 ?_
      refine hz_icmp_ge (pc := 23) (tgt := 30) (hz_dec kX12_hasByte 13 rfl) (by decide) (fun h4 => ?_) (fun h4 => ?_)
      · skip
        refine hz_iconst (pc := 30) (v := nI 0) (hz_dec kX12_hasByte 16 rfl) (by decide) ?_
        exact hz_zret (pc := 31) (hz_dec kX12_hasByte 17 rfl) rfl rfl ⟨rfl, rfl, rfl⟩
      · skip
        exact absurd (Int32.not_le.mp h4) (hi.resolve_left h3)
set_option maxHeartbeats 4000000 in
set_option maxRecDepth 100000 in
theorem c_rmby {κ : hz_C} {z B : Nat} {M : hz_M} {H : ho_H} (hnn : (hoN H).length ≤ 6) (hT4 : (hoT H).length ≤ 4000) (hR : hmR M z B H) {k i : Nat} (hk : k < (hoQ H).1.length) (hi : i < (msL (hoQ H).1 k).2.2.2.2.length) : hz_Mt κ xX12_messageByte 1 0 0 [.ref B, .int (nI k), .int (nI i)] z M (hmP M z B (.int (nI (bb (lf (msL (hoQ H).1 k).2.2.2.2 i)))) H) := by
  refine hz_ent (lo := [(0, .ref B), (1, .int (nI k)), (2, .int (nI i))]) (by decide) (Nat.le_of_ble_eq_true rfl) rfl ?_
  obtain ⟨hk0_, hE0, ⟨m1, m2, m3⟩, hNd, a5, a6, a7, a8⟩ := id hR
  obtain ⟨⟨fs, hO, hF⟩, -, -, h8, hz⟩ := id hk0_
  obtain ⟨x1, x3, x4, x5, x6, x7, x8⟩ := id m3
  refine hz_aloadn (pc := 0) 0 (hz_dec kX12_messageByte 0 rfl) rfl ?_
  refine hz_iconst (pc := 1) (v := nI 0) (hz_dec kX12_messageByte 1 rfl) (by decide) ?_
  refine hz_puti (pc := 2) (hz_dec kX12_messageByte 2 rfl) fo_X12_302 ft_X12_0 hO h8 (by omega) (by rw [hF.1]; decide) ?_
  have hf1 : mfr B [0, 89] [] M (va_up M B (.inr (12, (List.set fs 0 (.int (nI 0)))))) := (mfr.rf ⟨fs, hO, hF⟩).upO (k := 0) hO hF rfl rfl
  have hR1 : hmR (va_up M B (.inr (12, (List.set fs 0 (.int (nI 0)))))) z B H := hR.m0 hf1 hE0.upO ((fdB_of (va_up_self _ _ _) 89).trans ((List.getElem?_set_ne (by decide)).trans ((fdB_of hO 89).symm.trans x8)))
  generalize (va_up M B (.inr (12, (List.set fs 0 (.int (nI 0)))))) = M1 at *
  obtain ⟨hk1, hE1, ⟨n1, d1, q1⟩, hNd1, a51, a61, a71, a81⟩ := id hR1
  obtain ⟨⟨fs1, hO1, hF1⟩, -, -, -, -⟩ := id hk1
  have hql : (hoQ H).1.length ≤ 200 := q1.2.1
  have hmb : msO (hoQ H).1 k + (msL (hoQ H).1 k).2.2.2.2.length ≤ 40000 := by have r := msO_mo (q := (hoQ H).1) (show k + 1 ≤ (hoQ H).1.length by omega); rw [msO_st] at r; have r2 := q1.2.2.1; omega
  have hB1 : fA M1 B 76 (msO (hoQ H).1 k + i) = lf (msL (hoQ H).1 k).2.2.2.2 i := (q1.1.2 k hk).2.2 i hi
  refine hz_aloadn (pc := 5) 0 (hz_dec kX12_messageByte 3 rfl) rfl ?_
  refine hz_iloadn (pc := 6) 1 (hz_dec kX12_messageByte 4 rfl) rfl ?_
  refine hz_iloadn (pc := 7) 2 (hz_dec kX12_messageByte 5 rfl) rfl ?_
  refine hz_xV (pc := 8) (a := B) (As := [.int (nI k), .int (nI i)]) (st := []) (hz_dec kX12_messageByte 6 rfl) co_X12_714 im_X12_hasByte se_X12_hasByte rfl hO1 h8 (by omega) (c_hasB hR1 hk hi) rfl (by decide) ⟨Nat.le_refl _, Nat.le_refl _⟩ (Nat.le_of_ble_eq_true rfl) rfl ?_
  refine hz_z_eq (pc := 11) (tgt := 34) (hz_dec kX12_messageByte 7 rfl) (by decide) (by omega) (fun h1 => ?_) (fun h1 => ?_)
  · skip
    exact absurd h1 (by decide)
  · skip
    refine hz_aloadn (pc := 14) 0 (hz_dec kX12_messageByte 8 rfl) rfl ?_
    refine hz_get (pc := 15) (v := .ref (B + 76)) (hz_dec kX12_messageByte 9 rfl) fo_X12_249 hO1 h8 (by omega) (hF1.2 85 (by decide) (by decide)) ?_
    refine hz_aloadn (pc := 18) 0 (hz_dec kX12_messageByte 10 rfl) rfl ?_
    refine hz_get (pc := 19) (v := .ref (B + 75)) (hz_dec kX12_messageByte 11 rfl) fo_X12_245 hO1 h8 (by omega) (hF1.2 84 (by decide) (by decide)) ?_
    refine hz_iloadn (pc := 22) 1 (hz_dec kX12_messageByte 12 rfl) rfl ?_
    refine hz_iald (pc := 23) (j := k) (hz_dec kX12_messageByte 13 rfl) hE1.a75 (by omega) (by omega) rfl (by omega) (by decide) ?_
    refine hz_eqi (pc := 24) (q1.1.2 k hk).2.1 ?_
    refine hz_iloadn (pc := 24) 2 (hz_dec kX12_messageByte 14 rfl) rfl ?_
    refine hz_addN (pc := 25) (hz_dec kX12_messageByte 15 rfl) ?_
    refine hz_bald (pc := 26) (j := (msO (hoQ H).1 k) + i) (hz_dec kX12_messageByte 16 rfl) hE1.a76 (by omega) (by omega) rfl (by omega) (by decide) ?_
    refine hz_eqi (pc := 27) hB1 ?_
    refine hz_sipush (pc := 27) (v := nI 255) (hz_dec kX12_messageByte 17 rfl) (by decide) ?_
    refine hz_andB (pc := 30) (hz_dec kX12_messageByte 18 rfl) ?_
    refine hz_goto (pc := 31) (tgt := 35) (hz_dec kX12_messageByte 19 rfl) (by decide) ?_
    exact hz_iret (pc := 35) (hz_dec kX12_messageByte 21 rfl) rfl ⟨rfl, rfl, hf1.S rfl, hR1⟩
set_option maxHeartbeats 4000000 in
set_option maxRecDepth 100000 in
theorem c_rmbyk {κ : hz_C} {z B : Nat} {M : hz_M} {H : ho_H} (hnn : (hoN H).length ≤ 6) (hT4 : (hoT H).length ≤ 4000) (hR : hmR M z B H) {k i : Int32} (hk : k < 0 ∨ ¬ k < nI (hoQ H).1.length) : hz_Mt κ xX12_messageByte 1 0 0 [.ref B, .int k, .int i] z M (hmP M z B (.int (-1)) H) := by
  refine hz_ent (lo := [(0, .ref B), (1, .int k), (2, .int i)]) (by decide) (Nat.le_of_ble_eq_true rfl) rfl ?_
  obtain ⟨hk0_, hE0, ⟨m1, m2, m3⟩, hNd, a5, a6, a7, a8⟩ := id hR
  obtain ⟨⟨fs, hO, hF⟩, -, -, h8, hz⟩ := id hk0_
  obtain ⟨x1, x3, x4, x5, x6, x7, x8⟩ := id m3
  refine hz_aloadn (pc := 0) 0 (hz_dec kX12_messageByte 0 rfl) rfl ?_
  refine hz_iconst (pc := 1) (v := nI 0) (hz_dec kX12_messageByte 1 rfl) (by decide) ?_
  refine hz_puti (pc := 2) (hz_dec kX12_messageByte 2 rfl) fo_X12_302 ft_X12_0 hO h8 (by omega) (by rw [hF.1]; decide) ?_
  have hf1 : mfr B [0, 89] [] M (va_up M B (.inr (12, (List.set fs 0 (.int (nI 0)))))) := (mfr.rf ⟨fs, hO, hF⟩).upO (k := 0) hO hF rfl rfl
  have hR1 : hmR (va_up M B (.inr (12, (List.set fs 0 (.int (nI 0)))))) z B H := hR.m0 hf1 hE0.upO ((fdB_of (va_up_self _ _ _) 89).trans ((List.getElem?_set_ne (by decide)).trans ((fdB_of hO 89).symm.trans x8)))
  generalize (va_up M B (.inr (12, (List.set fs 0 (.int (nI 0)))))) = M1 at *
  obtain ⟨hk1, hE1, ⟨n1, d1, q1⟩, hNd1, a51, a61, a71, a81⟩ := id hR1
  obtain ⟨⟨fs1, hO1, hF1⟩, -, -, -, -⟩ := id hk1
  refine hz_aloadn (pc := 5) 0 (hz_dec kX12_messageByte 3 rfl) rfl ?_
  refine hz_iloadn (pc := 6) 1 (hz_dec kX12_messageByte 4 rfl) rfl ?_
  refine hz_iloadn (pc := 7) 2 (hz_dec kX12_messageByte 5 rfl) rfl ?_
  refine hz_xV (pc := 8) (a := B) (As := [.int k, .int i]) (st := []) (hz_dec kX12_messageByte 6 rfl) co_X12_714 im_X12_hasByte se_X12_hasByte rfl hO1 h8 (by omega) (c_hasBk hR1 hk) rfl (by decide) ⟨Nat.le_refl _, Nat.le_refl _⟩ (Nat.le_of_ble_eq_true rfl) rfl ?_
  refine hz_z_eq (pc := 11) (tgt := 34) (hz_dec kX12_messageByte 7 rfl) (by decide) (by omega) (fun h1 => ?_) (fun h1 => ?_)
  · skip
    refine hz_iconst (pc := 34) (v := (-1)) (hz_dec kX12_messageByte 20 rfl) (by decide) ?_
    exact hz_iret (pc := 35) (hz_dec kX12_messageByte 21 rfl) rfl ⟨rfl, rfl, hf1.S rfl, hR1⟩
  · skip
    exact absurd h1 (by decide)
set_option maxHeartbeats 4000000 in
set_option maxRecDepth 100000 in
theorem c_raltk {κ : hz_C} {z B : Nat} {M : hz_M} {H : ho_H} (hnn : (hoN H).length ≤ 6) (hT4 : (hoT H).length ≤ 4000) (hR : hmR M z B H) {k i : Int32} (hk : k < 0 ∨ ¬ k < nI (hoQ H).1.length) {b : Int32} : hz_Mt κ xX12_alter 1 0 0 [.ref B, .int k, .int i, .int b] z M (hmP M z B (.int (-1)) H) := by
  refine hz_ent (lo := [(0, .ref B), (1, .int k), (2, .int i), (3, .int b)]) (by decide) (Nat.le_of_ble_eq_true rfl) rfl ?_
  obtain ⟨hk0_, hE0, ⟨m1, m2, m3⟩, hNd, a5, a6, a7, a8⟩ := id hR
  obtain ⟨⟨fs, hO, hF⟩, -, -, h8, hz⟩ := id hk0_
  obtain ⟨x1, x3, x4, x5, x6, x7, x8⟩ := id m3
  refine hz_aloadn (pc := 0) 0 (hz_dec kX12_alter 0 rfl) rfl ?_
  refine hz_iconst (pc := 1) (v := nI 0) (hz_dec kX12_alter 1 rfl) (by decide) ?_
  refine hz_puti (pc := 2) (hz_dec kX12_alter 2 rfl) fo_X12_302 ft_X12_0 hO h8 (by omega) (by rw [hF.1]; decide) ?_
  have hf1 : mfr B [0, 89] [] M (va_up M B (.inr (12, (List.set fs 0 (.int (nI 0)))))) := (mfr.rf ⟨fs, hO, hF⟩).upO (k := 0) hO hF rfl rfl
  have hR1 : hmR (va_up M B (.inr (12, (List.set fs 0 (.int (nI 0)))))) z B H := hR.m0 hf1 hE0.upO ((fdB_of (va_up_self _ _ _) 89).trans ((List.getElem?_set_ne (by decide)).trans ((fdB_of hO 89).symm.trans x8)))
  generalize (va_up M B (.inr (12, (List.set fs 0 (.int (nI 0)))))) = M1 at *
  obtain ⟨hk1, hE1, ⟨n1, d1, q1⟩, hNd1, a51, a61, a71, a81⟩ := id hR1
  obtain ⟨⟨fs1, hO1, hF1⟩, -, -, -, -⟩ := id hk1
  refine hz_aloadn (pc := 5) 0 (hz_dec kX12_alter 3 rfl) rfl ?_
  refine hz_iloadn (pc := 6) 1 (hz_dec kX12_alter 4 rfl) rfl ?_
  refine hz_iloadn (pc := 7) 2 (hz_dec kX12_alter 5 rfl) rfl ?_
  refine hz_xV (pc := 8) (a := B) (As := [.int k, .int i]) (st := []) (hz_dec kX12_alter 6 rfl) co_X12_714 im_X12_hasByte se_X12_hasByte rfl hO1 h8 (by omega) (c_hasBk hR1 hk) rfl (by decide) ⟨Nat.le_refl _, Nat.le_refl _⟩ (Nat.le_of_ble_eq_true rfl) rfl ?_
  refine hz_z_ne (pc := 11) (tgt := 16) (hz_dec kX12_alter 7 rfl) (by decide) (by omega) (fun h1 => ?_) (fun h1 => ?_)
  · skip
    exact absurd h1 (by decide)
  · skip
    refine hz_iconst (pc := 14) (v := (-1)) (hz_dec kX12_alter 8 rfl) (by decide) ?_
    exact hz_iret (pc := 15) (hz_dec kX12_alter 9 rfl) rfl ⟨rfl, rfl, hf1.S rfl, hR1⟩
set_option maxHeartbeats 4000000 in
set_option maxRecDepth 100000 in
theorem c_rmbyi {κ : hz_C} {z B : Nat} {M : hz_M} {H : ho_H} (hnn : (hoN H).length ≤ 6) (hT4 : (hoT H).length ≤ 4000) (hR : hmR M z B H) {k : Nat} (hk : k < (hoQ H).1.length) {i : Int32} (hi : i < 0 ∨ ¬ i < nI (msL (hoQ H).1 k).2.2.2.2.length) : hz_Mt κ xX12_messageByte 1 0 0 [.ref B, .int (nI k), .int i] z M (hmP M z B (.int (-1)) H) := by
  refine hz_ent (lo := [(0, .ref B), (1, .int (nI k)), (2, .int i)]) (by decide) (Nat.le_of_ble_eq_true rfl) rfl ?_
  obtain ⟨hk0_, hE0, ⟨m1, m2, m3⟩, hNd, a5, a6, a7, a8⟩ := id hR
  obtain ⟨⟨fs, hO, hF⟩, -, -, h8, hz⟩ := id hk0_
  obtain ⟨x1, x3, x4, x5, x6, x7, x8⟩ := id m3
  refine hz_aloadn (pc := 0) 0 (hz_dec kX12_messageByte 0 rfl) rfl ?_
  refine hz_iconst (pc := 1) (v := nI 0) (hz_dec kX12_messageByte 1 rfl) (by decide) ?_
  refine hz_puti (pc := 2) (hz_dec kX12_messageByte 2 rfl) fo_X12_302 ft_X12_0 hO h8 (by omega) (by rw [hF.1]; decide) ?_
  have hf1 : mfr B [0, 89] [] M (va_up M B (.inr (12, (List.set fs 0 (.int (nI 0)))))) := (mfr.rf ⟨fs, hO, hF⟩).upO (k := 0) hO hF rfl rfl
  have hR1 : hmR (va_up M B (.inr (12, (List.set fs 0 (.int (nI 0)))))) z B H := hR.m0 hf1 hE0.upO ((fdB_of (va_up_self _ _ _) 89).trans ((List.getElem?_set_ne (by decide)).trans ((fdB_of hO 89).symm.trans x8)))
  generalize (va_up M B (.inr (12, (List.set fs 0 (.int (nI 0)))))) = M1 at *
  obtain ⟨hk1, hE1, ⟨n1, d1, q1⟩, hNd1, a51, a61, a71, a81⟩ := id hR1
  obtain ⟨⟨fs1, hO1, hF1⟩, -, -, -, -⟩ := id hk1
  refine hz_aloadn (pc := 5) 0 (hz_dec kX12_messageByte 3 rfl) rfl ?_
  refine hz_iloadn (pc := 6) 1 (hz_dec kX12_messageByte 4 rfl) rfl ?_
  refine hz_iloadn (pc := 7) 2 (hz_dec kX12_messageByte 5 rfl) rfl ?_
  refine hz_xV (pc := 8) (a := B) (As := [.int (nI k), .int i]) (st := []) (hz_dec kX12_messageByte 6 rfl) co_X12_714 im_X12_hasByte se_X12_hasByte rfl hO1 h8 (by omega) (c_hasBi hR1 hk hi) rfl (by decide) ⟨Nat.le_refl _, Nat.le_refl _⟩ (Nat.le_of_ble_eq_true rfl) rfl ?_
  refine hz_z_eq (pc := 11) (tgt := 34) (hz_dec kX12_messageByte 7 rfl) (by decide) (by omega) (fun h1 => ?_) (fun h1 => ?_)
  · skip
    refine hz_iconst (pc := 34) (v := (-1)) (hz_dec kX12_messageByte 20 rfl) (by decide) ?_
    exact hz_iret (pc := 35) (hz_dec kX12_messageByte 21 rfl) rfl ⟨rfl, rfl, hf1.S rfl, hR1⟩
  · skip
    exact absurd h1 (by decide)
set_option maxHeartbeats 4000000 in
set_option maxRecDepth 100000 in
theorem c_ralti {κ : hz_C} {z B : Nat} {M : hz_M} {H : ho_H} (hnn : (hoN H).length ≤ 6) (hT4 : (hoT H).length ≤ 4000) (hR : hmR M z B H) {k : Nat} (hk : k < (hoQ H).1.length) {i : Int32} (hi : i < 0 ∨ ¬ i < nI (msL (hoQ H).1 k).2.2.2.2.length) {b : Int32} : hz_Mt κ xX12_alter 1 0 0 [.ref B, .int (nI k), .int i, .int b] z M (hmP M z B (.int (-1)) H) := by
  refine hz_ent (lo := [(0, .ref B), (1, .int (nI k)), (2, .int i), (3, .int b)]) (by decide) (Nat.le_of_ble_eq_true rfl) rfl ?_
  obtain ⟨hk0_, hE0, ⟨m1, m2, m3⟩, hNd, a5, a6, a7, a8⟩ := id hR
  obtain ⟨⟨fs, hO, hF⟩, -, -, h8, hz⟩ := id hk0_
  obtain ⟨x1, x3, x4, x5, x6, x7, x8⟩ := id m3
  refine hz_aloadn (pc := 0) 0 (hz_dec kX12_alter 0 rfl) rfl ?_
  refine hz_iconst (pc := 1) (v := nI 0) (hz_dec kX12_alter 1 rfl) (by decide) ?_
  refine hz_puti (pc := 2) (hz_dec kX12_alter 2 rfl) fo_X12_302 ft_X12_0 hO h8 (by omega) (by rw [hF.1]; decide) ?_
  have hf1 : mfr B [0, 89] [] M (va_up M B (.inr (12, (List.set fs 0 (.int (nI 0)))))) := (mfr.rf ⟨fs, hO, hF⟩).upO (k := 0) hO hF rfl rfl
  have hR1 : hmR (va_up M B (.inr (12, (List.set fs 0 (.int (nI 0)))))) z B H := hR.m0 hf1 hE0.upO ((fdB_of (va_up_self _ _ _) 89).trans ((List.getElem?_set_ne (by decide)).trans ((fdB_of hO 89).symm.trans x8)))
  generalize (va_up M B (.inr (12, (List.set fs 0 (.int (nI 0)))))) = M1 at *
  obtain ⟨hk1, hE1, ⟨n1, d1, q1⟩, hNd1, a51, a61, a71, a81⟩ := id hR1
  obtain ⟨⟨fs1, hO1, hF1⟩, -, -, -, -⟩ := id hk1
  refine hz_aloadn (pc := 5) 0 (hz_dec kX12_alter 3 rfl) rfl ?_
  refine hz_iloadn (pc := 6) 1 (hz_dec kX12_alter 4 rfl) rfl ?_
  refine hz_iloadn (pc := 7) 2 (hz_dec kX12_alter 5 rfl) rfl ?_
  refine hz_xV (pc := 8) (a := B) (As := [.int (nI k), .int i]) (st := []) (hz_dec kX12_alter 6 rfl) co_X12_714 im_X12_hasByte se_X12_hasByte rfl hO1 h8 (by omega) (c_hasBi hR1 hk hi) rfl (by decide) ⟨Nat.le_refl _, Nat.le_refl _⟩ (Nat.le_of_ble_eq_true rfl) rfl ?_
  refine hz_z_ne (pc := 11) (tgt := 16) (hz_dec kX12_alter 7 rfl) (by decide) (by omega) (fun h1 => ?_) (fun h1 => ?_)
  · skip
    exact absurd h1 (by decide)
  · skip
    refine hz_iconst (pc := 14) (v := (-1)) (hz_dec kX12_alter 8 rfl) (by decide) ?_
    exact hz_iret (pc := 15) (hz_dec kX12_alter 9 rfl) rfl ⟨rfl, rfl, hf1.S rfl, hR1⟩
theorem alQ_l {q : List ms_M} {k i : Nat} {x : Int32} (hk : k < q.length) {j : Nat} : (msL (alQ q k i x) j).2.2.2.2.length = (msL q j).2.2.2.2.length := by
  rw [show msL (alQ q k i x) j = if j = k then alM q k i x else msL q j from msL_set hk j]
  by_cases c : j = k
  · rw [if_pos c, c]; exact List.length_set
  · rw [if_neg c]
set_option maxHeartbeats 4000000 in
set_option maxRecDepth 100000 in
theorem c_ralt {κ : hz_C} {z B : Nat} {M : hz_M} {H : ho_H} (hnn : (hoN H).length ≤ 6) (hT4 : (hoT H).length ≤ 4000) (hR : hmR M z B H) {k i : Nat} (hk : k < (hoQ H).1.length) (hi : i < (msL (hoQ H).1 k).2.2.2.2.length) {b : Int32} : hz_Mt κ xX12_alter 1 0 0 [.ref B, .int (nI k), .int (nI i), .int b] z M (hmP M z B (.int (nI (bb (trB (lf (msL (hoQ H).1 k).2.2.2.2 i) b)))) (hoq H (alQ (hoQ H).1 k i (trB (lf (msL (hoQ H).1 k).2.2.2.2 i) b), (hoQ H).2))) := by
  refine hz_ent (lo := [(0, .ref B), (1, .int (nI k)), (2, .int (nI i)), (3, .int b)]) (by decide) (Nat.le_of_ble_eq_true rfl) rfl ?_
  obtain ⟨hk0_, hE0, ⟨m1, m2, m3⟩, hNd, a5, a6, a7, a8⟩ := id hR
  obtain ⟨⟨fs, hO, hF⟩, -, -, h8, hz⟩ := id hk0_
  obtain ⟨x1, x3, x4, x5, x6, x7, x8⟩ := id m3
  refine hz_aloadn (pc := 0) 0 (hz_dec kX12_alter 0 rfl) rfl ?_
  refine hz_iconst (pc := 1) (v := nI 0) (hz_dec kX12_alter 1 rfl) (by decide) ?_
  refine hz_puti (pc := 2) (hz_dec kX12_alter 2 rfl) fo_X12_302 ft_X12_0 hO h8 (by omega) (by rw [hF.1]; decide) ?_
  have hf1 : mfr B [0, 89] [] M (va_up M B (.inr (12, (List.set fs 0 (.int (nI 0)))))) := (mfr.rf ⟨fs, hO, hF⟩).upO (k := 0) hO hF rfl rfl
  have hR1 : hmR (va_up M B (.inr (12, (List.set fs 0 (.int (nI 0)))))) z B H := hR.m0 hf1 hE0.upO ((fdB_of (va_up_self _ _ _) 89).trans ((List.getElem?_set_ne (by decide)).trans ((fdB_of hO 89).symm.trans x8)))
  generalize (va_up M B (.inr (12, (List.set fs 0 (.int (nI 0)))))) = M1 at *
  obtain ⟨hk1, hE1, ⟨n1, d1, q1⟩, hNd1, a51, a61, a71, a81⟩ := id hR1
  obtain ⟨⟨fs1, hO1, hF1⟩, -, -, -, -⟩ := id hk1
  have hql : (hoQ H).1.length ≤ 200 := q1.2.1
  have hmb : msO (hoQ H).1 k + (msL (hoQ H).1 k).2.2.2.2.length ≤ 40000 := by have r := msO_mo (q := (hoQ H).1) (show k + 1 ≤ (hoQ H).1.length by omega); rw [msO_st] at r; have r2 := q1.2.2.1; omega
  have hB1 : fA M1 B 76 (msO (hoQ H).1 k + i) = lf (msL (hoQ H).1 k).2.2.2.2 i := (q1.1.2 k hk).2.2 i hi
  refine hz_aloadn (pc := 5) 0 (hz_dec kX12_alter 3 rfl) rfl ?_
  refine hz_iloadn (pc := 6) 1 (hz_dec kX12_alter 4 rfl) rfl ?_
  refine hz_iloadn (pc := 7) 2 (hz_dec kX12_alter 5 rfl) rfl ?_
  refine hz_xV (pc := 8) (a := B) (As := [.int (nI k), .int (nI i)]) (st := []) (hz_dec kX12_alter 6 rfl) co_X12_714 im_X12_hasByte se_X12_hasByte rfl hO1 h8 (by omega) (c_hasB hR1 hk hi) rfl (by decide) ⟨Nat.le_refl _, Nat.le_refl _⟩ (Nat.le_of_ble_eq_true rfl) rfl ?_
  refine hz_z_ne (pc := 11) (tgt := 16) (hz_dec kX12_alter 7 rfl) (by decide) (by omega) (fun h1 => ?_) (fun h1 => ?_)
  · skip
    refine hz_aloadn (pc := 16) 0 (hz_dec kX12_alter 10 rfl) rfl ?_
    refine hz_get (pc := 17) (v := .ref (B + 75)) (hz_dec kX12_alter 11 rfl) fo_X12_245 hO1 h8 (by omega) (hF1.2 84 (by decide) (by decide)) ?_
    refine hz_iloadn (pc := 20) 1 (hz_dec kX12_alter 12 rfl) rfl ?_
    refine hz_iald (pc := 21) (j := k) (hz_dec kX12_alter 13 rfl) hE1.a75 (by omega) (by omega) rfl (by omega) (by decide) ?_
    refine hz_eqi (pc := 22) (q1.1.2 k hk).2.1 ?_
    refine hz_iloadn (pc := 22) 2 (hz_dec kX12_alter 14 rfl) rfl ?_
    refine hz_addN (pc := 23) (hz_dec kX12_alter 15 rfl) ?_
    refine hz_istore (pc := 24) (i := 4) (lo2 := [(4, .int (nI ((msO (hoQ H).1 k) + i))), (0, .ref B), (1, .int (nI k)), (2, .int (nI i)), (3, .int b)]) (hz_dec kX12_alter 16 rfl) (by decide) rfl ?_
    refine hz_aloadn (pc := 26) 1 (hz_dec kX12_alter 17 rfl) rfl ?_
    refine hz_get (pc := 27) (v := .ref (B + 76)) (hz_dec kX12_alter 18 rfl) fo_X12_249 hO1 h8 (by omega) (hF1.2 85 (by decide) (by decide)) ?_
    refine hz_iload (pc := 30) 0 (hz_dec kX12_alter 19 rfl) rfl ?_
    refine hz_aloadn (pc := 32) 1 (hz_dec kX12_alter 20 rfl) rfl ?_
    refine hz_get (pc := 33) (v := .ref (B + 76)) (hz_dec kX12_alter 21 rfl) fo_X12_249 hO1 h8 (by omega) (hF1.2 85 (by decide) (by decide)) ?_
    refine hz_iload (pc := 36) 0 (hz_dec kX12_alter 22 rfl) rfl ?_
    refine hz_bald (pc := 38) (j := (msO (hoQ H).1 k) + i) (hz_dec kX12_alter 23 rfl) hE1.a76 (by omega) (by omega) rfl (by omega) (by decide) ?_
    refine hz_eqi (pc := 39) hB1 ?_
    refine hz_iloadn (pc := 39) 4 (hz_dec kX12_alter 24 rfl) rfl ?_
    refine hz_ixor (pc := 40) (hz_dec kX12_alter 25 rfl) ?_
    refine hz_i2b (pc := 41) (hz_dec kX12_alter 26 rfl) ?_
    refine hz_bast (pc := 42) (j := (msO (hoQ H).1 k) + i) (hz_dec kX12_alter 27 rfl) hE1.a76 (by omega) (by omega) rfl (by omega) (by decide) ?_
    refine hz_mem (pc := 43) (M2 := (va_up M1 (B + 76) (.inl (1, 40000, .inl (upd (fA M1 B 76) (msO (hoQ H).1 k + i) (trB (lf (msL (hoQ H).1 k).2.2.2.2 i) b)))))) rfl ?_
    refine hz_aloadn (pc := 43) 1 (hz_dec kX12_alter 28 rfl) rfl ?_
    refine hz_get (pc := 44) (v := .ref (B + 76)) (hz_dec kX12_alter 29 rfl) fo_X12_249 (hz_mne hO1 (by omega)) h8 (by omega) (hF1.2 85 (by decide) (by decide)) ?_
    refine hz_iload (pc := 47) 0 (hz_dec kX12_alter 30 rfl) rfl ?_
    refine hz_bald (pc := 49) (j := (msO (hoQ H).1 k) + i) (hz_dec kX12_alter 31 rfl) (va_up_self _ _ _) (by omega) (by omega) rfl (by omega) (by decide) ?_
    refine hz_eqi (pc := 50) upd_s ?_
    refine hz_sipush (pc := 50) (v := nI 255) (hz_dec kX12_alter 32 rfl) (by decide) ?_
    refine hz_andB (pc := 53) (hz_dec kX12_alter 33 rfl) ?_
    have hf2 : mfr B [86, 87, 88, 92] [70, 71, 72, 73, 74, 75, 76, 78] M1 (va_up M1 (B + 76) (.inl (1, 40000, .inl (upd (fA M1 B 76) (msO (hoQ H).1 k + i) (trB (lf (msL (hoQ H).1 k).2.2.2.2 i) b))))) := ((mfr.rf (ks := [86, 87, 88, 92]) (os := [70, 71, 72, 73, 74, 75, 76, 78]) hk1.1).upA (o := 76) rfl (by decide))
    have hE2 : mdE (va_up M1 (B + 76) (.inl (1, 40000, .inl (upd (fA M1 B 76) (msO (hoQ H).1 k + i) (trB (lf (msL (hoQ H).1 k).2.2.2.2 i) b))))) B := (hE1.upA (k := 76) (t := 1) (n := 40000) (by decide))
    have e70 : fA (va_up M1 (B + 76) (.inl (1, 40000, .inl (upd (fA M1 B 76) (msO (hoQ H).1 k + i) (trB (lf (msL (hoQ H).1 k).2.2.2.2 i) b))))) B 70 = fA M1 B 70 := fA_c (va_up_ne _ _ (by omega))
    have e71 : fA (va_up M1 (B + 76) (.inl (1, 40000, .inl (upd (fA M1 B 76) (msO (hoQ H).1 k + i) (trB (lf (msL (hoQ H).1 k).2.2.2.2 i) b))))) B 71 = fA M1 B 71 := fA_c (va_up_ne _ _ (by omega))
    have e72 : fA (va_up M1 (B + 76) (.inl (1, 40000, .inl (upd (fA M1 B 76) (msO (hoQ H).1 k + i) (trB (lf (msL (hoQ H).1 k).2.2.2.2 i) b))))) B 72 = fA M1 B 72 := fA_c (va_up_ne _ _ (by omega))
    have e73 : fA (va_up M1 (B + 76) (.inl (1, 40000, .inl (upd (fA M1 B 76) (msO (hoQ H).1 k + i) (trB (lf (msL (hoQ H).1 k).2.2.2.2 i) b))))) B 73 = fA M1 B 73 := fA_c (va_up_ne _ _ (by omega))
    have e74 : fA (va_up M1 (B + 76) (.inl (1, 40000, .inl (upd (fA M1 B 76) (msO (hoQ H).1 k + i) (trB (lf (msL (hoQ H).1 k).2.2.2.2 i) b))))) B 74 = fA M1 B 74 := fA_c (va_up_ne _ _ (by omega))
    have e75 : fA (va_up M1 (B + 76) (.inl (1, 40000, .inl (upd (fA M1 B 76) (msO (hoQ H).1 k + i) (trB (lf (msL (hoQ H).1 k).2.2.2.2 i) b))))) B 75 = fA M1 B 75 := fA_c (va_up_ne _ _ (by omega))
    have e69 : fA (va_up M1 (B + 76) (.inl (1, 40000, .inl (upd (fA M1 B 76) (msO (hoQ H).1 k + i) (trB (lf (msL (hoQ H).1 k).2.2.2.2 i) b))))) B 69 = fA M1 B 69 := fA_c (va_up_ne _ _ (by omega))
    have e76 : fA (va_up M1 (B + 76) (.inl (1, 40000, .inl (upd (fA M1 B 76) (msO (hoQ H).1 k + i) (trB (lf (msL (hoQ H).1 k).2.2.2.2 i) b))))) B 76 = upd (fA M1 B 76) (msO (hoQ H).1 k + i) (trB (lf (msL (hoQ H).1 k).2.2.2.2 i) b) := fA_of (va_up_self _ _ _)
    have eO : ∀ j, fdB (va_up M1 (B + 76) (.inl (1, 40000, .inl (upd (fA M1 B 76) (msO (hoQ H).1 k + i) (trB (lf (msL (hoQ H).1 k).2.2.2.2 i) b))))) B j = fdB M1 B j := fun j => by unfold fdB; rw [va_up_ne _ _ (by omega)]
    have hm : mqR (va_up M1 (B + 76) (.inl (1, 40000, .inl (upd (fA M1 B 76) (msO (hoQ H).1 k + i) (trB (lf (msL (hoQ H).1 k).2.2.2.2 i) b))))) B (alQ (hoQ H).1 k i (trB (lf (msL (hoQ H).1 k).2.2.2.2 i) b)) (hoW H) (hoQ H).2 := ⟨⟨by rw [e70, e71, e72, e73]; exact alQ_X hk q1.1.1, fun j hj => by rw [alQ_len] at hj; rw [e74, e75, e76, alQ_O hk]; refine ⟨?_, (q1.1.2 j hj).2.1, alQ_A hk hi (fun j hj => (q1.1.2 j hj).2.2) j hj⟩; rw [(q1.1.2 j hj).1, alQ_l hk]⟩, by rw [alQ_len]; exact q1.2.1, by rw [alQ_O hk, alQ_len]; exact q1.2.2.1, by rw [eO, alQ_len]; exact q1.2.2.2.1, by rw [eO, alQ_O hk, alQ_len]; exact q1.2.2.2.2.1, (eO 88).trans q1.2.2.2.2.2.1, (eO 89).trans q1.2.2.2.2.2.2⟩
    have hR2 : hmR (va_up M1 (B + 76) (.inl (1, 40000, .inl (upd (fA M1 B 76) (msO (hoQ H).1 k + i) (trB (lf (msL (hoQ H).1 k).2.2.2.2 i) b))))) z B (hoq H (alQ (hoQ H).1 k i (trB (lf (msL (hoQ H).1 k).2.2.2.2 i) b), (hoQ H).2)) := hmR.q (s := (alQ (hoQ H).1 k i (trB (lf (msL (hoQ H).1 k).2.2.2.2 i) b), (hoQ H).2)) hR1 hf2 hE2 ⟨(eO 1).trans n1, by unfold mdD; rw [e69]; exact d1, hm⟩
    exact hz_iret (pc := 54) (hz_dec kX12_alter 34 rfl) rfl ⟨rfl, rfl, (hf1.S rfl).tr (hf2.S rfl), hR2⟩
  · skip
    exact absurd h1 (by decide)
