/-! keys over numbers -/
def m_lim (l : List Nat) : Nat := match l with
  | a :: b :: _ => Nat.add (Nat.mul a 4294967296) b
  | _ => 0
theorem lim_ok {l : List Nat} {f : Nat → Int32} (h : n_ok l f) : sh_lim f 0 = lN (m_lim l) ∧ m_lim l < 18446744073709551616 := by
  obtain ⟨v0, v1, v2, v3, v4, v5, v6, v7, rfl, hb, hv⟩ := h
  have b0 := hb.1
  have b1 := hb.2.1
  refine ⟨?_, ?_⟩
  · show lN (un (f 0) * 4294967296 + un (f 1)) = lN (v0 * 4294967296 + v1)
    rw [hv.1, hv.2.1, un_nI b0, un_nI b1]
  · show v0 * 4294967296 + v1 < 18446744073709551616
    omega
theorem hs_ok (g : Nat → Nat) {n : Nat} (hn : n < 1000000) : n_ok (n_h g n) (hs g n) := n_h_ok (fun i _ => by
  show bb (sb_b (g (0 + i) % 256)) = _
  rw [Nat.zero_add, bb_sb (Nat.mod_lt _ (by decide))]) hn
def m_byl (v j : Nat) : Nat := Nat.mod (Nat.div v (Nat.pow 2 (Nat.mul 8 (Nat.sub 7 j)))) 256
theorem byl_m {v : Nat} (h : v < 18446744073709551616) (j : Nat) : byl (lN v) j = m_byl v j := by
  unfold byl
  rw [uL_lN h]
  rfl
theorem c_lt {a b : Nat} (h : a < b) : Nat.blt a b = true := Nat.ble_eq_true_of_le h
theorem c_nlt {a b : Nat} (h : ¬ a < b) : Nat.blt a b = false := Bool.eq_false_iff.mpr (fun q => h (Nat.le_of_ble_eq_true q))
theorem c_be {a b : Nat} (h : a = b) : Nat.beq a b = true := by subst h; exact Nat.beq_refl a
theorem c_nbe {a b : Nat} (h : ¬ a = b) : Nat.beq a b = false := Bool.eq_false_iff.mpr (fun q => h (Nat.eq_of_beq_eq_true q))
def m_b (s i : Nat) : Nat := m_lim (n_h (fun j => cond (Nat.blt j 8) (m_byl s j) i) 9)
theorem ky_b_m {s : Nat} (h : s < 18446744073709551616) (i : Nat) : ky_b (lN s) i = lN (m_b s i) ∧ m_b s i < 18446744073709551616 := by
  have e : (fun j => if j < 8 then byl (lN s) j else i) = (fun j => cond (Nat.blt j 8) (m_byl s j) i) := funext fun j => by
    by_cases c : j < 8
    · rw [if_pos c, c_lt c, byl_m h]; rfl
    · rw [if_neg c, c_nlt c]; rfl
  unfold ky_b m_b
  rw [e]
  exact lim_ok (hs_ok _ (by decide))
def m_s (v i j : Nat) : Nat := m_lim (n_h (fun q => cond (Nat.blt q 8) (m_byl v q) (cond (Nat.beq q 8) i (Nat.add 16 j))) 10)
theorem ky_s_m {v : Nat} (h : v < 18446744073709551616) (i j : Nat) : ky_s (lN v) i j = lN (m_s v i j) ∧ m_s v i j < 18446744073709551616 := by
  have e : (fun q => if q < 8 then byl (lN v) q else if q = 8 then i else 16 + j) = (fun q => cond (Nat.blt q 8) (m_byl v q) (cond (Nat.beq q 8) i (Nat.add 16 j))) := funext fun q => by
    by_cases c : q < 8
    · rw [if_pos c, c_lt c, byl_m h]; rfl
    · rw [if_neg c, c_nlt c]
      by_cases d : q = 8
      · rw [if_pos d, c_be d]; rfl
      · rw [if_neg d, c_nbe d]; rfl
  unfold ky_s m_s
  rw [e]
  exact lim_ok (hs_ok _ (by decide))
def m_ss (v i : Nat) : Nat → Nat
  | 0 => v
  | k + 1 => m_s (m_ss v i k) i k
theorem ky_ss_m {v : Nat} (h : v < 18446744073709551616) (i : Nat) : ∀ k, ky_ss (lN v) i 0 k = lN (m_ss v i k) ∧ m_ss v i k < 18446744073709551616 := by
  intro k
  induction k with
  | zero => exact ⟨rfl, h⟩
  | succ k ih =>
    show ky_s (ky_ss (lN v) i 0 k) i (0 + k) = lN (m_s (m_ss v i k) i k) ∧ m_s (m_ss v i k) i k < _
    rw [ih.1, Nat.zero_add]
    exact ky_s_m ih.2 i k
def m_ad (e : Nat → Nat) : Nat := m_lim (n_h (fun q => m_byl (e (Nat.div q 8)) (Nat.mod q 8)) 64)
theorem ky_ad_m {e : Nat → Nat} (h : ∀ i, e i < 18446744073709551616) : ky_ad (fun i => lN (e i)) = lN (m_ad e) ∧ m_ad e < 18446744073709551616 := by
  have q : (fun q => byl (lN (e (q / 8))) (q % 8)) = (fun q => m_byl (e (Nat.div q 8)) (Nat.mod q 8)) := funext fun q => byl_m (h _) _
  unfold ky_ad m_ad
  rw [q]
  exact lim_ok (hs_ok _ (by decide))
theorem ka0_0 : m_b 0 0 = 4499227957048825481 := by decide +kernel
theorem ka0_1 : m_s 4499227957048825481 0 0 = 9154396894621313056 := by decide +kernel
theorem ka0_2 : m_s 9154396894621313056 0 1 = 8526542603418174341 := by decide +kernel
theorem ka0_3 : m_s 8526542603418174341 0 2 = 10382818388238021411 := by decide +kernel
theorem ka0_4 : m_s 10382818388238021411 0 3 = 7639608631461703200 := by decide +kernel
theorem ka0_5 : m_s 7639608631461703200 0 4 = 13077885880811388807 := by decide +kernel
theorem ka0_6 : m_s 13077885880811388807 0 5 = 2490400648792414244 := by decide +kernel
theorem ka0_7 : m_s 2490400648792414244 0 6 = 10540682590380354657 := by decide +kernel
theorem ka0_8 : m_s 10540682590380354657 0 7 = 7882892915799459254 := by decide +kernel
theorem ka0_9 : m_s 7882892915799459254 0 8 = 8172810781048763585 := by decide +kernel
theorem ka0_10 : m_s 8172810781048763585 0 9 = 18369214607119878035 := by decide +kernel
theorem ka0_11 : m_s 18369214607119878035 0 10 = 13694393968472896473 := by decide +kernel
theorem ka0_12 : m_s 13694393968472896473 0 11 = 6722780451584799919 := by decide +kernel
theorem ka0_13 : m_s 6722780451584799919 0 12 = 17545450812143890639 := by decide +kernel
theorem ka0_14 : m_s 17545450812143890639 0 13 = 2142557097024481198 := by decide +kernel
theorem ka0_15 : m_s 2142557097024481198 0 14 = 11432872740965248091 := by decide +kernel
theorem ka0 : m_ss (m_b 0 0) 0 15 = 11432872740965248091 := by
  show m_s (m_s (m_s (m_s (m_s (m_s (m_s (m_s (m_s (m_s (m_s (m_s (m_s (m_s (m_s (m_b 0 0) 0 0) 0 1) 0 2) 0 3) 0 4) 0 5) 0 6) 0 7) 0 8) 0 9) 0 10) 0 11) 0 12) 0 13) 0 14 = _
  rw [ka0_0, ka0_1, ka0_2, ka0_3, ka0_4, ka0_5, ka0_6, ka0_7, ka0_8, ka0_9, ka0_10, ka0_11, ka0_12, ka0_13, ka0_14, ka0_15]
theorem ka1_0 : m_b 0 1 = 3089963695325656974 := by decide +kernel
theorem ka1_1 : m_s 3089963695325656974 1 0 = 6566074520582056493 := by decide +kernel
theorem ka1_2 : m_s 6566074520582056493 1 1 = 10843090137982674440 := by decide +kernel
theorem ka1_3 : m_s 10843090137982674440 1 2 = 3963901816487136373 := by decide +kernel
theorem ka1_4 : m_s 3963901816487136373 1 3 = 12086669580833224366 := by decide +kernel
theorem ka1_5 : m_s 12086669580833224366 1 4 = 7945500751900000417 := by decide +kernel
theorem ka1_6 : m_s 7945500751900000417 1 5 = 2639421338473221758 := by decide +kernel
theorem ka1_7 : m_s 2639421338473221758 1 6 = 8645557703022139529 := by decide +kernel
theorem ka1_8 : m_s 8645557703022139529 1 7 = 17580516348887955065 := by decide +kernel
theorem ka1_9 : m_s 17580516348887955065 1 8 = 12600247069458034012 := by decide +kernel
theorem ka1_10 : m_s 12600247069458034012 1 9 = 18183368026903788541 := by decide +kernel
theorem ka1_11 : m_s 18183368026903788541 1 10 = 17731639294878638277 := by decide +kernel
theorem ka1_12 : m_s 17731639294878638277 1 11 = 12631774124081271165 := by decide +kernel
theorem ka1_13 : m_s 12631774124081271165 1 12 = 12468001910587808314 := by decide +kernel
theorem ka1_14 : m_s 12468001910587808314 1 13 = 12938841220229479223 := by decide +kernel
theorem ka1_15 : m_s 12938841220229479223 1 14 = 11259495712560081516 := by decide +kernel
theorem ka1 : m_ss (m_b 0 1) 1 15 = 11259495712560081516 := by
  show m_s (m_s (m_s (m_s (m_s (m_s (m_s (m_s (m_s (m_s (m_s (m_s (m_s (m_s (m_s (m_b 0 1) 1 0) 1 1) 1 2) 1 3) 1 4) 1 5) 1 6) 1 7) 1 8) 1 9) 1 10) 1 11) 1 12) 1 13) 1 14 = _
  rw [ka1_0, ka1_1, ka1_2, ka1_3, ka1_4, ka1_5, ka1_6, ka1_7, ka1_8, ka1_9, ka1_10, ka1_11, ka1_12, ka1_13, ka1_14, ka1_15]
theorem ka2_0 : m_b 0 2 = 15573255612827144006 := by decide +kernel
theorem ka2_1 : m_s 15573255612827144006 2 0 = 1450915904127490641 := by decide +kernel
theorem ka2_2 : m_s 1450915904127490641 2 1 = 15734781585669712452 := by decide +kernel
theorem ka2_3 : m_s 15734781585669712452 2 2 = 1788879566011872540 := by decide +kernel
theorem ka2_4 : m_s 1788879566011872540 2 3 = 10450471190529069695 := by decide +kernel
theorem ka2_5 : m_s 10450471190529069695 2 4 = 18119710783053300592 := by decide +kernel
theorem ka2_6 : m_s 18119710783053300592 2 5 = 12624565267521144873 := by decide +kernel
theorem ka2_7 : m_s 12624565267521144873 2 6 = 8475588993345733313 := by decide +kernel
theorem ka2_8 : m_s 8475588993345733313 2 7 = 1502579214291904308 := by decide +kernel
theorem ka2_9 : m_s 1502579214291904308 2 8 = 3802265841206432988 := by decide +kernel
theorem ka2_10 : m_s 3802265841206432988 2 9 = 2057530580462162320 := by decide +kernel
theorem ka2_11 : m_s 2057530580462162320 2 10 = 12806528842389535358 := by decide +kernel
theorem ka2_12 : m_s 12806528842389535358 2 11 = 15987460204241072516 := by decide +kernel
theorem ka2_13 : m_s 15987460204241072516 2 12 = 680478829149571989 := by decide +kernel
theorem ka2_14 : m_s 680478829149571989 2 13 = 11472827663188952440 := by decide +kernel
theorem ka2_15 : m_s 11472827663188952440 2 14 = 15073860903229465539 := by decide +kernel
theorem ka2 : m_ss (m_b 0 2) 2 15 = 15073860903229465539 := by
  show m_s (m_s (m_s (m_s (m_s (m_s (m_s (m_s (m_s (m_s (m_s (m_s (m_s (m_s (m_s (m_b 0 2) 2 0) 2 1) 2 2) 2 3) 2 4) 2 5) 2 6) 2 7) 2 8) 2 9) 2 10) 2 11) 2 12) 2 13) 2 14 = _
  rw [ka2_0, ka2_1, ka2_2, ka2_3, ka2_4, ka2_5, ka2_6, ka2_7, ka2_8, ka2_9, ka2_10, ka2_11, ka2_12, ka2_13, ka2_14, ka2_15]
theorem ka3_0 : m_b 0 3 = 18369041063992229102 := by decide +kernel
theorem ka3_1 : m_s 18369041063992229102 3 0 = 17941671685532975130 := by decide +kernel
theorem ka3_2 : m_s 17941671685532975130 3 1 = 14732492795463268453 := by decide +kernel
theorem ka3_3 : m_s 14732492795463268453 3 2 = 12249084327536470164 := by decide +kernel
theorem ka3_4 : m_s 12249084327536470164 3 3 = 622882712574247195 := by decide +kernel
theorem ka3_5 : m_s 622882712574247195 3 4 = 12848474145954193099 := by decide +kernel
theorem ka3_6 : m_s 12848474145954193099 3 5 = 2396527311865721143 := by decide +kernel
theorem ka3_7 : m_s 2396527311865721143 3 6 = 4400936723065119457 := by decide +kernel
theorem ka3_8 : m_s 4400936723065119457 3 7 = 13663020151237658167 := by decide +kernel
theorem ka3_9 : m_s 13663020151237658167 3 8 = 18123423533776673948 := by decide +kernel
theorem ka3_10 : m_s 18123423533776673948 3 9 = 2475376890933146544 := by decide +kernel
theorem ka3_11 : m_s 2475376890933146544 3 10 = 13100685081096960422 := by decide +kernel
theorem ka3_12 : m_s 13100685081096960422 3 11 = 4108216243685627345 := by decide +kernel
theorem ka3_13 : m_s 4108216243685627345 3 12 = 15068294625711835521 := by decide +kernel
theorem ka3_14 : m_s 15068294625711835521 3 13 = 12883153502714629756 := by decide +kernel
theorem ka3_15 : m_s 12883153502714629756 3 14 = 5995841698486322123 := by decide +kernel
theorem ka3 : m_ss (m_b 0 3) 3 15 = 5995841698486322123 := by
  show m_s (m_s (m_s (m_s (m_s (m_s (m_s (m_s (m_s (m_s (m_s (m_s (m_s (m_s (m_s (m_b 0 3) 3 0) 3 1) 3 2) 3 3) 3 4) 3 5) 3 6) 3 7) 3 8) 3 9) 3 10) 3 11) 3 12) 3 13) 3 14 = _
  rw [ka3_0, ka3_1, ka3_2, ka3_3, ka3_4, ka3_5, ka3_6, ka3_7, ka3_8, ka3_9, ka3_10, ka3_11, ka3_12, ka3_13, ka3_14, ka3_15]
theorem ka4_0 : m_b 0 4 = 10995873289862412102 := by decide +kernel
theorem ka4_1 : m_s 10995873289862412102 4 0 = 12639052620296710791 := by decide +kernel
theorem ka4_2 : m_s 12639052620296710791 4 1 = 12568196282626472243 := by decide +kernel
theorem ka4_3 : m_s 12568196282626472243 4 2 = 8714734322312912598 := by decide +kernel
theorem ka4_4 : m_s 8714734322312912598 4 3 = 13816323178236589253 := by decide +kernel
theorem ka4_5 : m_s 13816323178236589253 4 4 = 4507395340661436231 := by decide +kernel
theorem ka4_6 : m_s 4507395340661436231 4 5 = 17473314763576233187 := by decide +kernel
theorem ka4_7 : m_s 17473314763576233187 4 6 = 13890711110484133399 := by decide +kernel
theorem ka4_8 : m_s 13890711110484133399 4 7 = 12980031799019530920 := by decide +kernel
theorem ka4_9 : m_s 12980031799019530920 4 8 = 2329873969834193680 := by decide +kernel
theorem ka4_10 : m_s 2329873969834193680 4 9 = 2525221714469863295 := by decide +kernel
theorem ka4_11 : m_s 2525221714469863295 4 10 = 3988439154598661411 := by decide +kernel
theorem ka4_12 : m_s 3988439154598661411 4 11 = 11307013384347553183 := by decide +kernel
theorem ka4_13 : m_s 11307013384347553183 4 12 = 10658329017607295527 := by decide +kernel
theorem ka4_14 : m_s 10658329017607295527 4 13 = 6966027907841269460 := by decide +kernel
theorem ka4_15 : m_s 6966027907841269460 4 14 = 16773149881688055173 := by decide +kernel
theorem ka4 : m_ss (m_b 0 4) 4 15 = 16773149881688055173 := by
  show m_s (m_s (m_s (m_s (m_s (m_s (m_s (m_s (m_s (m_s (m_s (m_s (m_s (m_s (m_s (m_b 0 4) 4 0) 4 1) 4 2) 4 3) 4 4) 4 5) 4 6) 4 7) 4 8) 4 9) 4 10) 4 11) 4 12) 4 13) 4 14 = _
  rw [ka4_0, ka4_1, ka4_2, ka4_3, ka4_4, ka4_5, ka4_6, ka4_7, ka4_8, ka4_9, ka4_10, ka4_11, ka4_12, ka4_13, ka4_14, ka4_15]
theorem ka5_0 : m_b 0 5 = 15775814799568359472 := by decide +kernel
theorem ka5_1 : m_s 15775814799568359472 5 0 = 11984562781349770724 := by decide +kernel
theorem ka5_2 : m_s 11984562781349770724 5 1 = 17513245851301543210 := by decide +kernel
theorem ka5_3 : m_s 17513245851301543210 5 2 = 17505075369476808768 := by decide +kernel
theorem ka5_4 : m_s 17505075369476808768 5 3 = 1750340232413048115 := by decide +kernel
theorem ka5_5 : m_s 1750340232413048115 5 4 = 2904797282369067355 := by decide +kernel
theorem ka5_6 : m_s 2904797282369067355 5 5 = 16525120889480486245 := by decide +kernel
theorem ka5_7 : m_s 16525120889480486245 5 6 = 2727484445637824944 := by decide +kernel
theorem ka5_8 : m_s 2727484445637824944 5 7 = 5785929016591553715 := by decide +kernel
theorem ka5_9 : m_s 5785929016591553715 5 8 = 3231080851974770857 := by decide +kernel
theorem ka5_10 : m_s 3231080851974770857 5 9 = 2783774411913275481 := by decide +kernel
theorem ka5_11 : m_s 2783774411913275481 5 10 = 12969240210065931904 := by decide +kernel
theorem ka5_12 : m_s 12969240210065931904 5 11 = 17836940051430404887 := by decide +kernel
theorem ka5_13 : m_s 17836940051430404887 5 12 = 903330851223478265 := by decide +kernel
theorem ka5_14 : m_s 903330851223478265 5 13 = 16341943931773375248 := by decide +kernel
theorem ka5_15 : m_s 16341943931773375248 5 14 = 12567550306027611351 := by decide +kernel
theorem ka5 : m_ss (m_b 0 5) 5 15 = 12567550306027611351 := by
  show m_s (m_s (m_s (m_s (m_s (m_s (m_s (m_s (m_s (m_s (m_s (m_s (m_s (m_s (m_s (m_b 0 5) 5 0) 5 1) 5 2) 5 3) 5 4) 5 5) 5 6) 5 7) 5 8) 5 9) 5 10) 5 11) 5 12) 5 13) 5 14 = _
  rw [ka5_0, ka5_1, ka5_2, ka5_3, ka5_4, ka5_5, ka5_6, ka5_7, ka5_8, ka5_9, ka5_10, ka5_11, ka5_12, ka5_13, ka5_14, ka5_15]
theorem ka6_0 : m_b 0 6 = 448027769359260360 := by decide +kernel
theorem ka6_1 : m_s 448027769359260360 6 0 = 10840401815001376188 := by decide +kernel
theorem ka6_2 : m_s 10840401815001376188 6 1 = 8123332621349526934 := by decide +kernel
theorem ka6_3 : m_s 8123332621349526934 6 2 = 5994894848311457884 := by decide +kernel
theorem ka6_4 : m_s 5994894848311457884 6 3 = 12460214123892214777 := by decide +kernel
theorem ka6_5 : m_s 12460214123892214777 6 4 = 12168544428064275159 := by decide +kernel
theorem ka6_6 : m_s 12168544428064275159 6 5 = 8761992549231655603 := by decide +kernel
theorem ka6_7 : m_s 8761992549231655603 6 6 = 11318430437375441501 := by decide +kernel
theorem ka6_8 : m_s 11318430437375441501 6 7 = 6798457195891908840 := by decide +kernel
theorem ka6_9 : m_s 6798457195891908840 6 8 = 15231599243814929385 := by decide +kernel
theorem ka6_10 : m_s 15231599243814929385 6 9 = 12516782139471703696 := by decide +kernel
theorem ka6_11 : m_s 12516782139471703696 6 10 = 9732605943116450838 := by decide +kernel
theorem ka6_12 : m_s 9732605943116450838 6 11 = 3139989478170666415 := by decide +kernel
theorem ka6_13 : m_s 3139989478170666415 6 12 = 4516495675682841675 := by decide +kernel
theorem ka6_14 : m_s 4516495675682841675 6 13 = 10137010896799301317 := by decide +kernel
theorem ka6_15 : m_s 10137010896799301317 6 14 = 13591349255783198986 := by decide +kernel
theorem ka6 : m_ss (m_b 0 6) 6 15 = 13591349255783198986 := by
  show m_s (m_s (m_s (m_s (m_s (m_s (m_s (m_s (m_s (m_s (m_s (m_s (m_s (m_s (m_s (m_b 0 6) 6 0) 6 1) 6 2) 6 3) 6 4) 6 5) 6 6) 6 7) 6 8) 6 9) 6 10) 6 11) 6 12) 6 13) 6 14 = _
  rw [ka6_0, ka6_1, ka6_2, ka6_3, ka6_4, ka6_5, ka6_6, ka6_7, ka6_8, ka6_9, ka6_10, ka6_11, ka6_12, ka6_13, ka6_14, ka6_15]
theorem ka7_0 : m_b 0 7 = 5612130274805256077 := by decide +kernel
theorem ka7_1 : m_s 5612130274805256077 7 0 = 3269981555973972579 := by decide +kernel
theorem ka7_2 : m_s 3269981555973972579 7 1 = 17452205831363488980 := by decide +kernel
theorem ka7_3 : m_s 17452205831363488980 7 2 = 6081083070829130476 := by decide +kernel
theorem ka7_4 : m_s 6081083070829130476 7 3 = 13346884014305125547 := by decide +kernel
theorem ka7_5 : m_s 13346884014305125547 7 4 = 11811784001288243597 := by decide +kernel
theorem ka7_6 : m_s 11811784001288243597 7 5 = 11503180365439173771 := by decide +kernel
theorem ka7_7 : m_s 11503180365439173771 7 6 = 18308588917405239033 := by decide +kernel
theorem ka7_8 : m_s 18308588917405239033 7 7 = 11394349476105092493 := by decide +kernel
theorem ka7_9 : m_s 11394349476105092493 7 8 = 10159500596002105772 := by decide +kernel
theorem ka7_10 : m_s 10159500596002105772 7 9 = 5488048201059771136 := by decide +kernel
theorem ka7_11 : m_s 5488048201059771136 7 10 = 14705115613738797508 := by decide +kernel
theorem ka7_12 : m_s 14705115613738797508 7 11 = 8851277594254499579 := by decide +kernel
theorem ka7_13 : m_s 8851277594254499579 7 12 = 8351421958295895168 := by decide +kernel
theorem ka7_14 : m_s 8351421958295895168 7 13 = 16271900566280155067 := by decide +kernel
theorem ka7_15 : m_s 16271900566280155067 7 14 = 3650710184682856965 := by decide +kernel
theorem ka7 : m_ss (m_b 0 7) 7 15 = 3650710184682856965 := by
  show m_s (m_s (m_s (m_s (m_s (m_s (m_s (m_s (m_s (m_s (m_s (m_s (m_s (m_s (m_s (m_b 0 7) 7 0) 7 1) 7 2) 7 3) 7 4) 7 5) 7 6) 7 7) 7 8) 7 9) 7 10) 7 11) 7 12) 7 13) 7 14 = _
  rw [ka7_0, ka7_1, ka7_2, ka7_3, ka7_4, ka7_5, ka7_6, ka7_7, ka7_8, ka7_9, ka7_10, ka7_11, ka7_12, ka7_13, ka7_14, ka7_15]
def ka_e (i : Nat) : Nat := ([11432872740965248091, 11259495712560081516, 15073860903229465539, 5995841698486322123, 16773149881688055173, 12567550306027611351, 13591349255783198986, 3650710184682856965] : List Nat).getD i 0
theorem ka_ad : m_ad ka_e = 6647114040899463811 := by decide +kernel
theorem ka_lt : ∀ i, ka_e i < 18446744073709551616 := by
  intro i
  rcases Nat.lt_or_ge i 8 with c | c
  · exact (show ∀ i, i < 8 → ka_e i < 18446744073709551616 by decide) i c
  · have q : ka_e i = 0 := by
      unfold ka_e
      rw [List.getD_eq_getElem?_getD, List.getElem?_eq_none c]
      rfl
    rw [q]
    decide
theorem ky_a0 : ky_a 0 = lN 6647114040899463811 := by
  have z0 : (0 : Int64) = lN 0 := by decide
  have q : ∀ i, i < 8 → ky_ss (ky_b 0 i) i 0 15 = lN (ka_e i) := by
    intro i hi
    rw [z0, (ky_b_m (by decide) i).1, (ky_ss_m (ky_b_m (s := 0) (by decide) i).2 i 15).1]
    congr 1
    match i, hi with
    | 0, _ => exact ka0
    | 1, _ => exact ka1
    | 2, _ => exact ka2
    | 3, _ => exact ka3
    | 4, _ => exact ka4
    | 5, _ => exact ka5
    | 6, _ => exact ka6
    | 7, _ => exact ka7
    | n + 8, h => exact absurd h (by omega)
  unfold ky_a
  rw [ky_ad_c q, (ky_ad_m ka_lt).1, ka_ad]
